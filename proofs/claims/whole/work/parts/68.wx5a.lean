theorem inX5_addBond_X5 : ∀ w ∈ wsX50, w ∈ wsX5_addBond := by decide +kernel
set_option maxHeartbeats 4000000 in
set_option maxRecDepth 100000 in
theorem m_X5_addBond (l : Launch) (D : va_G) (cI cJ cO : ClassId) (hm : Nat) (mh : Nat) (mo : Nat) (my : Nat) (mp : Nat) (M : Nat → Int32) (mc : Int64) (mhol : Nat → Int32) (mof : Nat → Int32) (mdy : Nat → Int32) (mpd : Nat → Int64) (sz : Nat) (a0 : Int32) (a1 : Int32) (a2 : Int32) (a3 : Int32) (a4 : Int32) (N : Nat) (r : Int32 × (Nat → Int32) × (Nat → Int32) × (Nat → Int32)) (hf : f_X5_addBond N M mof mdy a0 a1 a2 a3 a4 = some r) : Met l yX5_addBond wsX5_addBond ({ frames := 2, cells := 1, slots := 14, locals := 60 }) (va_Pc [.ref hm, .int a0, .int a1, .int a2, .int a3, .int a4] (mP D (ty3 cI cJ cO) none [eM hm mh mo my mp M mc, eH cI mh mhol, eO cI mo mof, eY cI my mdy, eP cJ mp mpd] sz)) (mQi D (va_A [eM hm mh mo my mp M mc, eH cI mh mhol, eO cI mo mof, eY cI my mdy, eP cJ mp mpd] sz) r.1 [eM hm mh mo my mp r.2.1 mc, eH cI mh mhol, eO cI mo r.2.2.1, eY cI my r.2.2.2, eP cJ mp mpd]) 1 14 (va_A [eM hm mh mo my mp M mc, eH cI mh mhol, eO cI mo mof, eY cI my mdy, eP cJ mp mpd] sz) := by
  refine Met.ofW (cc := cX5_addBond) (maxL := 9) (ret := (some .int)) (by decide) rfl ?_
  intro p e s m args below meth c s₁ Bd hml hv
  obtain ⟨rfl, hsz, hZ, hP, hK, hD0⟩ := hv
  have hx := Bd.exec
  have hb := Bd.bytes
  have hr := Bd.returns
  have hts := atoms_spec (ws := wsX5_addBond) Bd.pre
  have hown : s.vm.findClass RX5 = some m.cls := findClass_of_methodNamed Bd.named
  have hlocks := Bd.notSynchronized
  subst hsz
  have hD := hD0.self (sz := s.heap.size)
  generalize hAe : va_A [eM hm mh mo my mp M mc, eH cI mh mhol, eO cI mo mof, eY cI my mdy, eP cJ mp mpd] s.heap.size = A at hD hZ ⊢
  have hA : ∀ q : Nat, s.heap.size ≤ q → A q := fun q h => by rw [← hAe]; exact Or.inr h
  have hS : va_S A s.heap s.heap [] := va_S.rf
  have hl := lv_entry ([.ref hm, .int a0, .int a1, .int a2, .int a3, .int a4]) (n := 9) (Nat.le_of_ble_eq_true rfl)
  rw [lg_entry_eq]
  generalize (lg_sl ([.ref hm, .int a0, .int a1, .int a2, .int a3, .int a4]) ++ List.replicate (9 - (lg_sl ([.ref hm, .int a0, .int a1, .int a2, .int a3, .int a4])).length) Slot.unset).toArray = ls at hl ⊢
  have hl : lv_has ls 9 [(0, .ref hm), (1, .int a0), (2, .int a1), (3, .int a2), (4, .int a3), (5, .int a4)] := hl
  unfold f_X5_addBond at hf
  refine lv_aload_n hx hb dX5_addBond_0 rfl (lv_at hl 0 rfl) ?_
  refine lv_iconst (v := 0) hx hb dX5_addBond_1 (by decide) ?_
  refine va_put (D := D) (ci := 4) (v := .int 0) (ty := .int) (C := RX5) (T := TX5) (N := 10) hx hb hts inX5_addBond_X5 tyX5 tyX5_ok nmX5 hown hK hP hD hS 0 rfl rfl 0 (by decide) (hts (.fieldLink RX5 41 "BondDeskModel" "thrown" "I") (by decide +kernel)) (fun _ h9 => h9) rfl (by decide +kernel) rfl rfl (Nat.le_of_ble_eq_true rfl) dX5_addBond_2 (fun H locs hP hD hS => ?_)
  have hP : va_P D vwCl [eM hm mh mo my mp (va_up M 0 (0 : Int32)) mc, eH cI mh mhol, eO cI mo mof, eY cI my mdy, eP cJ mp mpd] H := hP
  have hD : va_D A [eM hm mh mo my mp (va_up M 0 (0 : Int32)) mc, eH cI mh mhol, eO cI mo mof, eY cI my mdy, eP cJ mp mpd] := hD
  refine lv_iload_n hx hb dX5_addBond_5 rfl (lv_at hl 1 rfl) ?_
  obtain ⟨v1, hv1, hf⟩ := ob hf
  refine cSz (W.runS (As := [.int a0]) (rest := []) ⟨hx, hb, hml, hown, hts⟩ (m_X5_isDate l D cI cJ cO a0 v1 hv1) (va_cwS 1 hts gX5_addBond_X5_isDate rfl rfl rfl (by decide +kernel) ⟨(Nat.le_of_ble_eq_true rfl), (Nat.le_of_ble_eq_true rfl)⟩) ⟨pw_blind, fun U hU hW => ⟨rfl, pw_at hZ hS hP hK hU hW (Or.inr rfl) [] rfl⟩⟩ rfl rfl hl.1 rfl (lv_room (Nat.le_of_ble_eq_true rfl)) dX5_addBond_6 ⟨(Nat.le_of_ble_eq_true rfl), (Nat.le_of_ble_eq_true rfl)⟩) (fun zv1 => ?_)
  refine lv_if_eq (tgt := 41) hx hb dX5_addBond_9 (by decide) (fun c2 => ?_) (fun c2 => ?_)
  · have hf := it hf c2
    refine lv_aload_n hx hb dX5_addBond_41 rfl (lv_at hl 0 rfl) ?_
    refine lv_iconst (v := 1) hx hb dX5_addBond_42 (by decide) ?_
    obtain ⟨v3, hv3, hf⟩ := ob hf
    have hPc := hP.sub (ws' := [eM hm mh mo my mp (va_up M 0 (0 : Int32)) mc, eH cI mh mhol, eO cI mo mof, eY cI my mdy, eP cJ mp mpd]) [0, 1, 2, 3, 4] rfl
    have hDc := hD.sub (ws' := [eM hm mh mo my mp (va_up M 0 (0 : Int32)) mc, eH cI mh mhol, eO cI mo mof, eY cI my mdy, eP cJ mp mpd]) [0, 1, 2, 3, 4] (by decide) rfl
    have hFc := va_free (wc := [eM hm mh mo my mp (va_up M 0 (0 : Int32)) mc, eH cI mh mhol, eO cI mo mof, eY cI my mdy, eP cJ mp mpd]) hD hS hA [0, 1, 2, 3, 4] rfl
    refine va_calli (va_runV (As := [.int 1]) (rest := []) ⟨hx, hb, hml, hown, hts⟩ (m_X5_no l D cI cJ cO hm mh mo my mp (va_up M 0 (0 : Int32)) mc mhol mof mdy mpd H.size 1 v3 hv3) (cwV 1 hts gX5_addBond_X5_no rfl rfl rfl (by decide +kernel) ⟨(Nat.le_of_ble_eq_true rfl), (Nat.le_of_ble_eq_true rfl)⟩) ⟨mp_blind, va_recv hK hP (ci := 4) (q0 := 0) rfl rfl, fun U hU hW => ⟨rfl, mp_at hZ hS hPc hK hDc hFc hU hW (Or.inr rfl)⟩⟩ rfl rfl hl.1 rfl (lv_room (Nat.le_of_ble_eq_true rfl)) dX5_addBond_43 ⟨(Nat.le_of_ble_eq_true rfl), (Nat.le_of_ble_eq_true rfl)⟩) hS (fun q _ h => hFc q h) hFc (fun rv3 u t H1 locs ht9 hvm hw hBx hz1 hk1 hS => ?_)
    subst hw
    obtain ⟨hP1, hD1⟩ := hBx
    rw [ht9] at hP1
    obtain ⟨hP, hD⟩ := va_join (wr := []) (w1 := [eM hm mh mo my mp v3.2 mc, eH cI mh mhol, eO cI mo mof, eY cI my mdy, eP cJ mp mpd]) hP hD [0, 1, 2, 3, 4] [] rfl rfl (by decide) (by decide) hk1 hFc hP1 hD1
    have hP := hP.sub (ws' := [eM hm mh mo my mp v3.2 mc, eH cI mh mhol, eO cI mo mof, eY cI my mdy, eP cJ mp mpd]) [0, 1, 2, 3, 4] rfl
    have hD := hD.sub (ws' := [eM hm mh mo my mp v3.2 mc, eH cI mh mhol, eO cI mo mof, eY cI my mdy, eP cJ mp mpd]) [0, 1, 2, 3, 4] (by decide) rfl
    generalize H1 = H at hP hS ⊢
    refine W.widen (k := 1) (n := 14) (Nat.le_of_ble_eq_true rfl) (Nat.le_of_ble_eq_true rfl) ?_
    have e9 := Option.some.inj hf
    subst e9
    exact W.iret hx hb hr (fun t ht hW => ⟨⟨_, (), rfl, rfl, by rw [ht]; exact hP, hD⟩, hS.F ht⟩) hS.2.2 dX5_addBond_46
  · have hf := ie hf c2
    refine lv_iload_n hx hb dX5_addBond_12 rfl (lv_at hl 2 rfl) ?_
    obtain ⟨v4, hv4, hf⟩ := ob hf
    refine cSz (W.runS (As := [.int a1]) (rest := []) ⟨hx, hb, hml, hown, hts⟩ (m_X5_isDate l D cI cJ cO a1 v4 hv4) (va_cwS 1 hts gX5_addBond_X5_isDate rfl rfl rfl (by decide +kernel) ⟨(Nat.le_of_ble_eq_true rfl), (Nat.le_of_ble_eq_true rfl)⟩) ⟨pw_blind, fun U hU hW => ⟨rfl, pw_at hZ hS hP hK hU hW (Or.inr rfl) [] rfl⟩⟩ rfl rfl hl.1 rfl (lv_room (Nat.le_of_ble_eq_true rfl)) dX5_addBond_13 ⟨(Nat.le_of_ble_eq_true rfl), (Nat.le_of_ble_eq_true rfl)⟩) (fun zv4 => ?_)
    refine lv_if_eq (tgt := 41) hx hb dX5_addBond_16 (by decide) (fun c5 => ?_) (fun c5 => ?_)
    · have hf := it hf c5
      refine lv_aload_n hx hb dX5_addBond_41 rfl (lv_at hl 0 rfl) ?_
      refine lv_iconst (v := 1) hx hb dX5_addBond_42 (by decide) ?_
      obtain ⟨v6, hv6, hf⟩ := ob hf
      have hPc := hP.sub (ws' := [eM hm mh mo my mp (va_up M 0 (0 : Int32)) mc, eH cI mh mhol, eO cI mo mof, eY cI my mdy, eP cJ mp mpd]) [0, 1, 2, 3, 4] rfl
      have hDc := hD.sub (ws' := [eM hm mh mo my mp (va_up M 0 (0 : Int32)) mc, eH cI mh mhol, eO cI mo mof, eY cI my mdy, eP cJ mp mpd]) [0, 1, 2, 3, 4] (by decide) rfl
      have hFc := va_free (wc := [eM hm mh mo my mp (va_up M 0 (0 : Int32)) mc, eH cI mh mhol, eO cI mo mof, eY cI my mdy, eP cJ mp mpd]) hD hS hA [0, 1, 2, 3, 4] rfl
      refine va_calli (va_runV (As := [.int 1]) (rest := []) ⟨hx, hb, hml, hown, hts⟩ (m_X5_no l D cI cJ cO hm mh mo my mp (va_up M 0 (0 : Int32)) mc mhol mof mdy mpd H.size 1 v6 hv6) (cwV 1 hts gX5_addBond_X5_no rfl rfl rfl (by decide +kernel) ⟨(Nat.le_of_ble_eq_true rfl), (Nat.le_of_ble_eq_true rfl)⟩) ⟨mp_blind, va_recv hK hP (ci := 4) (q0 := 0) rfl rfl, fun U hU hW => ⟨rfl, mp_at hZ hS hPc hK hDc hFc hU hW (Or.inr rfl)⟩⟩ rfl rfl hl.1 rfl (lv_room (Nat.le_of_ble_eq_true rfl)) dX5_addBond_43 ⟨(Nat.le_of_ble_eq_true rfl), (Nat.le_of_ble_eq_true rfl)⟩) hS (fun q _ h => hFc q h) hFc (fun rv6 u t H1 locs ht9 hvm hw hBx hz1 hk1 hS => ?_)
      subst hw
      obtain ⟨hP1, hD1⟩ := hBx
      rw [ht9] at hP1
      obtain ⟨hP, hD⟩ := va_join (wr := []) (w1 := [eM hm mh mo my mp v6.2 mc, eH cI mh mhol, eO cI mo mof, eY cI my mdy, eP cJ mp mpd]) hP hD [0, 1, 2, 3, 4] [] rfl rfl (by decide) (by decide) hk1 hFc hP1 hD1
      have hP := hP.sub (ws' := [eM hm mh mo my mp v6.2 mc, eH cI mh mhol, eO cI mo mof, eY cI my mdy, eP cJ mp mpd]) [0, 1, 2, 3, 4] rfl
      have hD := hD.sub (ws' := [eM hm mh mo my mp v6.2 mc, eH cI mh mhol, eO cI mo mof, eY cI my mdy, eP cJ mp mpd]) [0, 1, 2, 3, 4] (by decide) rfl
      generalize H1 = H at hP hS ⊢
      refine W.widen (k := 1) (n := 14) (Nat.le_of_ble_eq_true rfl) (Nat.le_of_ble_eq_true rfl) ?_
      have e9 := Option.some.inj hf
      subst e9
      exact W.iret hx hb hr (fun t ht hW => ⟨⟨_, (), rfl, rfl, by rw [ht]; exact hP, hD⟩, hS.F ht⟩) hS.2.2 dX5_addBond_46
    · have hf := ie hf c5
      refine lv_iload_n hx hb dX5_addBond_19 rfl (lv_at hl 2 rfl) ?_
      refine lv_ldc hx hb hown (hts (.constant RX5 73 (20661101)) (by decide +kernel)) dX5_addBond_20 ?_
      refine lv_icmp_gt (tgt := 41) hx hb dX5_addBond_22 (by decide) (fun c7 => ?_) (fun c7 => ?_)
      · have hf := it hf c7
        refine lv_aload_n hx hb dX5_addBond_41 rfl (lv_at hl 0 rfl) ?_
        refine lv_iconst (v := 1) hx hb dX5_addBond_42 (by decide) ?_
        obtain ⟨v8, hv8, hf⟩ := ob hf
        have hPc := hP.sub (ws' := [eM hm mh mo my mp (va_up M 0 (0 : Int32)) mc, eH cI mh mhol, eO cI mo mof, eY cI my mdy, eP cJ mp mpd]) [0, 1, 2, 3, 4] rfl
        have hDc := hD.sub (ws' := [eM hm mh mo my mp (va_up M 0 (0 : Int32)) mc, eH cI mh mhol, eO cI mo mof, eY cI my mdy, eP cJ mp mpd]) [0, 1, 2, 3, 4] (by decide) rfl
        have hFc := va_free (wc := [eM hm mh mo my mp (va_up M 0 (0 : Int32)) mc, eH cI mh mhol, eO cI mo mof, eY cI my mdy, eP cJ mp mpd]) hD hS hA [0, 1, 2, 3, 4] rfl
        refine va_calli (va_runV (As := [.int 1]) (rest := []) ⟨hx, hb, hml, hown, hts⟩ (m_X5_no l D cI cJ cO hm mh mo my mp (va_up M 0 (0 : Int32)) mc mhol mof mdy mpd H.size 1 v8 hv8) (cwV 1 hts gX5_addBond_X5_no rfl rfl rfl (by decide +kernel) ⟨(Nat.le_of_ble_eq_true rfl), (Nat.le_of_ble_eq_true rfl)⟩) ⟨mp_blind, va_recv hK hP (ci := 4) (q0 := 0) rfl rfl, fun U hU hW => ⟨rfl, mp_at hZ hS hPc hK hDc hFc hU hW (Or.inr rfl)⟩⟩ rfl rfl hl.1 rfl (lv_room (Nat.le_of_ble_eq_true rfl)) dX5_addBond_43 ⟨(Nat.le_of_ble_eq_true rfl), (Nat.le_of_ble_eq_true rfl)⟩) hS (fun q _ h => hFc q h) hFc (fun rv8 u t H1 locs ht9 hvm hw hBx hz1 hk1 hS => ?_)
        subst hw
        obtain ⟨hP1, hD1⟩ := hBx
        rw [ht9] at hP1
        obtain ⟨hP, hD⟩ := va_join (wr := []) (w1 := [eM hm mh mo my mp v8.2 mc, eH cI mh mhol, eO cI mo mof, eY cI my mdy, eP cJ mp mpd]) hP hD [0, 1, 2, 3, 4] [] rfl rfl (by decide) (by decide) hk1 hFc hP1 hD1
        have hP := hP.sub (ws' := [eM hm mh mo my mp v8.2 mc, eH cI mh mhol, eO cI mo mof, eY cI my mdy, eP cJ mp mpd]) [0, 1, 2, 3, 4] rfl
        have hD := hD.sub (ws' := [eM hm mh mo my mp v8.2 mc, eH cI mh mhol, eO cI mo mof, eY cI my mdy, eP cJ mp mpd]) [0, 1, 2, 3, 4] (by decide) rfl
        generalize H1 = H at hP hS ⊢
        refine W.widen (k := 1) (n := 14) (Nat.le_of_ble_eq_true rfl) (Nat.le_of_ble_eq_true rfl) ?_
        have e9 := Option.some.inj hf
        subst e9
        exact W.iret hx hb hr (fun t ht hW => ⟨⟨_, (), rfl, rfl, by rw [ht]; exact hP, hD⟩, hS.F ht⟩) hS.2.2 dX5_addBond_46
      · have hf := ie hf c7
        refine lv_iload_n hx hb dX5_addBond_25 rfl (lv_at hl 2 rfl) ?_
        refine lv_iload_n hx hb dX5_addBond_26 rfl (lv_at hl 1 rfl) ?_
        refine lv_icmp_le (tgt := 41) hx hb dX5_addBond_27 (by decide) (fun c9 => ?_) (fun c9 => ?_)
        · have hf := it hf c9
          refine lv_aload_n hx hb dX5_addBond_41 rfl (lv_at hl 0 rfl) ?_
          refine lv_iconst (v := 1) hx hb dX5_addBond_42 (by decide) ?_
          obtain ⟨v10, hv10, hf⟩ := ob hf
          have hPc := hP.sub (ws' := [eM hm mh mo my mp (va_up M 0 (0 : Int32)) mc, eH cI mh mhol, eO cI mo mof, eY cI my mdy, eP cJ mp mpd]) [0, 1, 2, 3, 4] rfl
          have hDc := hD.sub (ws' := [eM hm mh mo my mp (va_up M 0 (0 : Int32)) mc, eH cI mh mhol, eO cI mo mof, eY cI my mdy, eP cJ mp mpd]) [0, 1, 2, 3, 4] (by decide) rfl
          have hFc := va_free (wc := [eM hm mh mo my mp (va_up M 0 (0 : Int32)) mc, eH cI mh mhol, eO cI mo mof, eY cI my mdy, eP cJ mp mpd]) hD hS hA [0, 1, 2, 3, 4] rfl
          refine va_calli (va_runV (As := [.int 1]) (rest := []) ⟨hx, hb, hml, hown, hts⟩ (m_X5_no l D cI cJ cO hm mh mo my mp (va_up M 0 (0 : Int32)) mc mhol mof mdy mpd H.size 1 v10 hv10) (cwV 1 hts gX5_addBond_X5_no rfl rfl rfl (by decide +kernel) ⟨(Nat.le_of_ble_eq_true rfl), (Nat.le_of_ble_eq_true rfl)⟩) ⟨mp_blind, va_recv hK hP (ci := 4) (q0 := 0) rfl rfl, fun U hU hW => ⟨rfl, mp_at hZ hS hPc hK hDc hFc hU hW (Or.inr rfl)⟩⟩ rfl rfl hl.1 rfl (lv_room (Nat.le_of_ble_eq_true rfl)) dX5_addBond_43 ⟨(Nat.le_of_ble_eq_true rfl), (Nat.le_of_ble_eq_true rfl)⟩) hS (fun q _ h => hFc q h) hFc (fun rv10 u t H1 locs ht9 hvm hw hBx hz1 hk1 hS => ?_)
          subst hw
          obtain ⟨hP1, hD1⟩ := hBx
          rw [ht9] at hP1
          obtain ⟨hP, hD⟩ := va_join (wr := []) (w1 := [eM hm mh mo my mp v10.2 mc, eH cI mh mhol, eO cI mo mof, eY cI my mdy, eP cJ mp mpd]) hP hD [0, 1, 2, 3, 4] [] rfl rfl (by decide) (by decide) hk1 hFc hP1 hD1
          have hP := hP.sub (ws' := [eM hm mh mo my mp v10.2 mc, eH cI mh mhol, eO cI mo mof, eY cI my mdy, eP cJ mp mpd]) [0, 1, 2, 3, 4] rfl
          have hD := hD.sub (ws' := [eM hm mh mo my mp v10.2 mc, eH cI mh mhol, eO cI mo mof, eY cI my mdy, eP cJ mp mpd]) [0, 1, 2, 3, 4] (by decide) rfl
          generalize H1 = H at hP hS ⊢
          refine W.widen (k := 1) (n := 14) (Nat.le_of_ble_eq_true rfl) (Nat.le_of_ble_eq_true rfl) ?_
          have e9 := Option.some.inj hf
          subst e9
          exact W.iret hx hb hr (fun t ht hW => ⟨⟨_, (), rfl, rfl, by rw [ht]; exact hP, hD⟩, hS.F ht⟩) hS.2.2 dX5_addBond_46
        · have hf := ie hf c9
          refine lv_iload_n hx hb dX5_addBond_30 rfl (lv_at hl 2 rfl) ?_
          obtain ⟨v11, hv11, hf⟩ := ob hf
          refine cSi (W.runS (As := [.int a1]) (rest := []) ⟨hx, hb, hml, hown, hts⟩ (m_X5_number l D cI cJ cO a1 N v11 hv11) (va_cwS 1 hts gX5_addBond_X5_number rfl rfl rfl (by decide +kernel) ⟨(Nat.le_of_ble_eq_true rfl), (Nat.le_of_ble_eq_true rfl)⟩) ⟨pw_blind, fun U hU hW => ⟨rfl, pw_at hZ hS hP hK hU hW (Or.inr rfl) [] rfl⟩⟩ rfl rfl hl.1 rfl (lv_room (Nat.le_of_ble_eq_true rfl)) dX5_addBond_31 ⟨(Nat.le_of_ble_eq_true rfl), (Nat.le_of_ble_eq_true rfl)⟩) ?_
          refine lv_aload_n hx hb dX5_addBond_34 rfl (lv_at hl 0 rfl) ?_
          refine va_get (D := D) (ci := 4) (v := .int (M 1)) (C := RX5) (T := TX5) (N := 10) hx hb hts inX5_addBond_X5 hown hK hP 0 rfl rfl 1 (by decide) (hts (.fieldLink RX5 14 "BondDeskModel" "today" "I") (by decide +kernel)) (fun _ h9 => h9) rfl dX5_addBond_35 ?_
          refine lv_icmp_gt (tgt := 47) hx hb dX5_addBond_38 (by decide) (fun c12 => ?_) (fun c12 => ?_)
          · have hf := it hf c12
            refine lv_iload_n hx hb dX5_addBond_47 rfl (lv_at hl 3 rfl) ?_
            refine lv_iconst (v := 0) hx hb dX5_addBond_48 (by decide) ?_
            refine lv_sipush (v := 2000) hx hb dX5_addBond_49 (by decide) ?_
            obtain ⟨v13, hv13, hf⟩ := ob hf
            refine cSz (W.runS (As := [.int a2, .int 0, .int 2000]) (rest := []) ⟨hx, hb, hml, hown, hts⟩ (m_X5_isIn l D cI cJ cO a2 0 2000 v13 hv13) (va_cwS 3 hts gX5_addBond_X5_isIn rfl rfl rfl (by decide +kernel) ⟨(Nat.le_of_ble_eq_true rfl), (Nat.le_of_ble_eq_true rfl)⟩) ⟨pw_blind, fun U hU hW => ⟨rfl, pw_at hZ hS hP hK hU hW (Or.inr rfl) [] rfl⟩⟩ rfl rfl hl.1 rfl (lv_room (Nat.le_of_ble_eq_true rfl)) dX5_addBond_52 ⟨(Nat.le_of_ble_eq_true rfl), (Nat.le_of_ble_eq_true rfl)⟩) (fun zv13 => ?_)
            refine lv_if_eq (tgt := 93) hx hb dX5_addBond_55 (by decide) (fun c14 => ?_) (fun c14 => ?_)
            · have hf := it hf c14
              refine lv_aload_n hx hb dX5_addBond_93 rfl (lv_at hl 0 rfl) ?_
              refine lv_iconst (v := 1) hx hb dX5_addBond_94 (by decide) ?_
              obtain ⟨v15, hv15, hf⟩ := ob hf
              have hPc := hP.sub (ws' := [eM hm mh mo my mp (va_up M 0 (0 : Int32)) mc, eH cI mh mhol, eO cI mo mof, eY cI my mdy, eP cJ mp mpd]) [0, 1, 2, 3, 4] rfl
              have hDc := hD.sub (ws' := [eM hm mh mo my mp (va_up M 0 (0 : Int32)) mc, eH cI mh mhol, eO cI mo mof, eY cI my mdy, eP cJ mp mpd]) [0, 1, 2, 3, 4] (by decide) rfl
              have hFc := va_free (wc := [eM hm mh mo my mp (va_up M 0 (0 : Int32)) mc, eH cI mh mhol, eO cI mo mof, eY cI my mdy, eP cJ mp mpd]) hD hS hA [0, 1, 2, 3, 4] rfl
              refine va_calli (va_runV (As := [.int 1]) (rest := []) ⟨hx, hb, hml, hown, hts⟩ (m_X5_no l D cI cJ cO hm mh mo my mp (va_up M 0 (0 : Int32)) mc mhol mof mdy mpd H.size 1 v15 hv15) (cwV 1 hts gX5_addBond_X5_no rfl rfl rfl (by decide +kernel) ⟨(Nat.le_of_ble_eq_true rfl), (Nat.le_of_ble_eq_true rfl)⟩) ⟨mp_blind, va_recv hK hP (ci := 4) (q0 := 0) rfl rfl, fun U hU hW => ⟨rfl, mp_at hZ hS hPc hK hDc hFc hU hW (Or.inr rfl)⟩⟩ rfl rfl hl.1 rfl (lv_room (Nat.le_of_ble_eq_true rfl)) dX5_addBond_95 ⟨(Nat.le_of_ble_eq_true rfl), (Nat.le_of_ble_eq_true rfl)⟩) hS (fun q _ h => hFc q h) hFc (fun rv15 u t H1 locs ht9 hvm hw hBx hz1 hk1 hS => ?_)
              subst hw
              obtain ⟨hP1, hD1⟩ := hBx
              rw [ht9] at hP1
              obtain ⟨hP, hD⟩ := va_join (wr := []) (w1 := [eM hm mh mo my mp v15.2 mc, eH cI mh mhol, eO cI mo mof, eY cI my mdy, eP cJ mp mpd]) hP hD [0, 1, 2, 3, 4] [] rfl rfl (by decide) (by decide) hk1 hFc hP1 hD1
              have hP := hP.sub (ws' := [eM hm mh mo my mp v15.2 mc, eH cI mh mhol, eO cI mo mof, eY cI my mdy, eP cJ mp mpd]) [0, 1, 2, 3, 4] rfl
              have hD := hD.sub (ws' := [eM hm mh mo my mp v15.2 mc, eH cI mh mhol, eO cI mo mof, eY cI my mdy, eP cJ mp mpd]) [0, 1, 2, 3, 4] (by decide) rfl
              generalize H1 = H at hP hS ⊢
              refine W.widen (k := 1) (n := 14) (Nat.le_of_ble_eq_true rfl) (Nat.le_of_ble_eq_true rfl) ?_
              have e9 := Option.some.inj hf
              subst e9
              exact W.iret hx hb hr (fun t ht hW => ⟨⟨_, (), rfl, rfl, by rw [ht]; exact hP, hD⟩, hS.F ht⟩) hS.2.2 dX5_addBond_98
            · have hf := ie hf c14
              refine lv_iload hx hb dX5_addBond_58 (lv_at hl 4 rfl) ?_
              refine lv_iconst (v := 1) hx hb dX5_addBond_60 (by decide) ?_
              obtain ⟨K16, hK16, hf⟩ := jn_s hf
              have JK16 : ∀  (ls : Array Slot), lv_has ls 9 [(0, .ref hm), (1, .int a0), (2, .int a1), (3, .int a2), (4, .int a3), (5, .int a4)] → K16 () = some r → W p l e (headSpec wsX5_addBond ({ frames := 2, cells := 1, slots := 14, locals := 60 })).room s m ([.ref hm, .int a0, .int a1, .int a2, .int a3, .int a4] : List Value).toArray below meth c H locs 0 0 (MQ below (mQi D A r.1 [eM hm mh mo my mp r.2.1 mc, eH cI mh mhol, eO cI mo r.2.2.1, eY cI my r.2.2.2, eP cJ mp mpd]) ([.ref hm, .int a0, .int a1, .int a2, .int a3, .int a4] : List Value).toArray s 1 14 A) (F0 m 83 ls []) := by
                intro  ls hl hf
                rw [hK16] at hf
                refine lv_iload hx hb dX5_addBond_83 (lv_at hl 5 rfl) ?_
                refine lv_iconst (v := 0) hx hb dX5_addBond_85 (by decide) ?_
                refine lv_iconst (v := 3) hx hb dX5_addBond_86 (by decide) ?_
                obtain ⟨v17, hv17, hf⟩ := ob hf
                refine cSz (W.runS (As := [.int a4, .int 0, .int 3]) (rest := []) ⟨hx, hb, hml, hown, hts⟩ (m_X5_isIn l D cI cJ cO a4 0 3 v17 hv17) (va_cwS 3 hts gX5_addBond_X5_isIn rfl rfl rfl (by decide +kernel) ⟨(Nat.le_of_ble_eq_true rfl), (Nat.le_of_ble_eq_true rfl)⟩) ⟨pw_blind, fun U hU hW => ⟨rfl, pw_at hZ hS hP hK hU hW (Or.inr rfl) [] rfl⟩⟩ rfl rfl hl.1 rfl (lv_room (Nat.le_of_ble_eq_true rfl)) dX5_addBond_87 ⟨(Nat.le_of_ble_eq_true rfl), (Nat.le_of_ble_eq_true rfl)⟩) (fun zv17 => ?_)
                refine lv_if_ne (tgt := 99) hx hb dX5_addBond_90 (by decide) (fun c18 => ?_) (fun c18 => ?_)
                · have hf := ie hf c18
                  refine lv_iconst (v := 0) hx hb dX5_addBond_99 (by decide) ?_
                  refine lv_istore (lv' := [(6, .int 0), (0, .ref hm), (1, .int a0), (2, .int a1), (3, .int a2), (4, .int a3), (5, .int a4)]) hx hb dX5_addBond_100 hl (by decide) rfl (fun ls hl => ?_)
                  obtain ⟨K20, hK20, hf⟩ := kx_s (P := fun k => f_X5_addBond_L102 a3 a1 a0 k N 0 = some r) hf
                  have JK20 : ∀ (x21 : Int32) (ls : Array Slot), lv_has ls 9 [(0, .ref hm), (1, .int a0), (2, .int a1), (3, .int a2), (4, .int a3), (5, .int a4), (6, .int x21)] → K20 x21 = some r → W p l e (headSpec wsX5_addBond ({ frames := 2, cells := 1, slots := 14, locals := 60 })).room s m ([.ref hm, .int a0, .int a1, .int a2, .int a3, .int a4] : List Value).toArray below meth c H locs 0 0 (MQ below (mQi D A r.1 [eM hm mh mo my mp r.2.1 mc, eH cI mh mhol, eO cI mo r.2.2.1, eY cI my r.2.2.2, eP cJ mp mpd]) ([.ref hm, .int a0, .int a1, .int a2, .int a3, .int a4] : List Value).toArray s 1 14 A) (F0 m 124 ls []) := by
                    intro x21 ls hl hf
                    rw [hK20] at hf
                    refine lv_iload hx hb dX5_addBond_124 (lv_at hl 6 rfl) ?_
                    refine lv_bipush (v := 120) hx hb dX5_addBond_126 (by decide) ?_
                    refine lv_icmp_gt (tgt := 148) hx hb dX5_addBond_128 (by decide) (fun c27 => ?_) (fun c27 => ?_)
                    · have hf := it hf c27
                      refine lv_aload_n hx hb dX5_addBond_148 rfl (lv_at hl 0 rfl) ?_
                      refine lv_iconst (v := 1) hx hb dX5_addBond_149 (by decide) ?_
                      obtain ⟨v28, hv28, hf⟩ := ob hf
                      have hPc := hP.sub (ws' := [eM hm mh mo my mp (va_up M 0 (0 : Int32)) mc, eH cI mh mhol, eO cI mo mof, eY cI my mdy, eP cJ mp mpd]) [0, 1, 2, 3, 4] rfl
                      have hDc := hD.sub (ws' := [eM hm mh mo my mp (va_up M 0 (0 : Int32)) mc, eH cI mh mhol, eO cI mo mof, eY cI my mdy, eP cJ mp mpd]) [0, 1, 2, 3, 4] (by decide) rfl
                      have hFc := va_free (wc := [eM hm mh mo my mp (va_up M 0 (0 : Int32)) mc, eH cI mh mhol, eO cI mo mof, eY cI my mdy, eP cJ mp mpd]) hD hS hA [0, 1, 2, 3, 4] rfl
                      refine va_calli (va_runV (As := [.int 1]) (rest := []) ⟨hx, hb, hml, hown, hts⟩ (m_X5_no l D cI cJ cO hm mh mo my mp (va_up M 0 (0 : Int32)) mc mhol mof mdy mpd H.size 1 v28 hv28) (cwV 1 hts gX5_addBond_X5_no rfl rfl rfl (by decide +kernel) ⟨(Nat.le_of_ble_eq_true rfl), (Nat.le_of_ble_eq_true rfl)⟩) ⟨mp_blind, va_recv hK hP (ci := 4) (q0 := 0) rfl rfl, fun U hU hW => ⟨rfl, mp_at hZ hS hPc hK hDc hFc hU hW (Or.inr rfl)⟩⟩ rfl rfl hl.1 rfl (lv_room (Nat.le_of_ble_eq_true rfl)) dX5_addBond_150 ⟨(Nat.le_of_ble_eq_true rfl), (Nat.le_of_ble_eq_true rfl)⟩) hS (fun q _ h => hFc q h) hFc (fun rv28 u t H1 locs ht9 hvm hw hBx hz1 hk1 hS => ?_)
                      subst hw
                      obtain ⟨hP1, hD1⟩ := hBx
                      rw [ht9] at hP1
                      obtain ⟨hP, hD⟩ := va_join (wr := []) (w1 := [eM hm mh mo my mp v28.2 mc, eH cI mh mhol, eO cI mo mof, eY cI my mdy, eP cJ mp mpd]) hP hD [0, 1, 2, 3, 4] [] rfl rfl (by decide) (by decide) hk1 hFc hP1 hD1
                      have hP := hP.sub (ws' := [eM hm mh mo my mp v28.2 mc, eH cI mh mhol, eO cI mo mof, eY cI my mdy, eP cJ mp mpd]) [0, 1, 2, 3, 4] rfl
                      have hD := hD.sub (ws' := [eM hm mh mo my mp v28.2 mc, eH cI mh mhol, eO cI mo mof, eY cI my mdy, eP cJ mp mpd]) [0, 1, 2, 3, 4] (by decide) rfl
                      generalize H1 = H at hP hS ⊢
                      refine W.widen (k := 1) (n := 14) (Nat.le_of_ble_eq_true rfl) (Nat.le_of_ble_eq_true rfl) ?_
                      have e9 := Option.some.inj hf
                      subst e9
                      exact W.iret hx hb hr (fun t ht hW => ⟨⟨_, (), rfl, rfl, by rw [ht]; exact hP, hD⟩, hS.F ht⟩) hS.2.2 dX5_addBond_153
                    · have hf := ie hf c27
                      refine lv_iload_n hx hb dX5_addBond_131 rfl (lv_at hl 2 rfl) ?_
                      refine lv_bipush (v := 12) hx hb dX5_addBond_132 (by decide) ?_
                      refine lv_iload hx hb dX5_addBond_134 (lv_at hl 4 rfl) ?_
                      obtain ⟨c29, hf⟩ := gd_s hf
                      refine lv_idiv hx hb dX5_addBond_136 c29 ?_
                      refine lv_iload hx hb dX5_addBond_137 (lv_at hl 6 rfl) ?_
                      refine lv_imul hx hb dX5_addBond_139 ?_
                      obtain ⟨v30, hv30, hf⟩ := ob hf
                      refine cSi (W.runS (As := [.int a1, .int ((12 / a3) * x21)]) (rest := []) ⟨hx, hb, hml, hown, hts⟩ (m_X5_moved l D cI cJ cO a1 ((12 / a3) * x21) v30 hv30) (va_cwS 2 hts gX5_addBond_X5_moved rfl rfl rfl (by decide +kernel) ⟨(Nat.le_of_ble_eq_true rfl), (Nat.le_of_ble_eq_true rfl)⟩) ⟨pw_blind, fun U hU hW => ⟨rfl, pw_at hZ hS hP hK hU hW (Or.inr rfl) [] rfl⟩⟩ rfl rfl hl.1 rfl (lv_room (Nat.le_of_ble_eq_true rfl)) dX5_addBond_140 ⟨(Nat.le_of_ble_eq_true rfl), (Nat.le_of_ble_eq_true rfl)⟩) ?_
                      refine lv_ldc hx hb hown (hts (.constant RX5 44 (20160101)) (by decide +kernel)) dX5_addBond_143 ?_
                      refine lv_icmp_ge (tgt := 154) hx hb dX5_addBond_145 (by decide) (fun c31 => ?_) (fun c31 => ?_)
                      · have hf := it hf c31
                        refine lv_aload_n hx hb dX5_addBond_154 rfl (lv_at hl 0 rfl) ?_
                        refine va_get (D := D) (ci := 4) (v := .int (M 4)) (C := RX5) (T := TX5) (N := 10) hx hb hts inX5_addBond_X5 hown hK hP 0 rfl rfl 4 (by decide) (hts (.fieldLink RX5 77 "BondDeskModel" "bonds" "I") (by decide +kernel)) (fun _ h9 => h9) rfl dX5_addBond_155 ?_
                        refine lv_bipush (v := 10) hx hb dX5_addBond_158 (by decide) ?_
                        refine lv_icmp_ne (tgt := 169) hx hb dX5_addBond_160 (by decide) (fun c32 => ?_) (fun c32 => ?_)
                        · have hf := ie hf c32
                          refine lv_iconst (v := 0) hx hb dX5_addBond_169 (by decide) ?_
                          refine lv_istore (lv' := [(7, .int 0), (0, .ref hm), (1, .int a0), (2, .int a1), (3, .int a2), (4, .int a3), (5, .int a4), (6, .int x21)]) hx hb dX5_addBond_170 hl (by decide) rfl (fun ls hl => ?_)
                          obtain ⟨K37, hK37, hf⟩ := kx_s (P := fun k => f_X5_addBond_L172 x21 a3 a1 N k N 0 (va_up M 0 (0 : Int32)) mof mdy = some r) hf
                          have JK37 : ∀ (w38 : Nat → Int32) (w39 : Nat → Int32) (w40 : Nat → Int32) (H : Heap) (locs : List Loc), va_P D vwCl [eM hm mh mo my mp w38 mc, eH cI mh mhol, eO cI mo w39, eY cI my w40, eP cJ mp mpd] H → va_D A [eM hm mh mo my mp w38 mc, eH cI mh mhol, eO cI mo w39, eY cI my w40, eP cJ mp mpd] → va_S A s.heap H locs → ∀ (ls : Array Slot), lv_has ls 9 [(0, .ref hm), (1, .int a0), (2, .int a1), (3, .int a2), (4, .int a3), (5, .int a4), (6, .int x21)] → K37 w38 w39 w40 = some r → W p l e (headSpec wsX5_addBond ({ frames := 2, cells := 1, slots := 14, locals := 60 })).room s m ([.ref hm, .int a0, .int a1, .int a2, .int a3, .int a4] : List Value).toArray below meth c H locs 0 0 (MQ below (mQi D A r.1 [eM hm mh mo my mp r.2.1 mc, eH cI mh mhol, eO cI mo r.2.2.1, eY cI my r.2.2.2, eP cJ mp mpd]) ([.ref hm, .int a0, .int a1, .int a2, .int a3, .int a4] : List Value).toArray s 1 14 A) (F0 m 218 ls []) := by
                            intro w38 w39 w40 H locs hP hD hS ls hl hf
                            rw [hK37] at hf
                            refine lv_iconst (v := 0) hx hb dX5_addBond_218 (by decide) ?_
                            refine lv_istore (lv' := [(7, .int 0), (0, .ref hm), (1, .int a0), (2, .int a1), (3, .int a2), (4, .int a3), (5, .int a4), (6, .int x21)]) hx hb dX5_addBond_219 hl (by decide) rfl (fun ls hl => ?_)
                            obtain ⟨K50, hK50, hf⟩ := kx_s (P := fun k => f_X5_addBond_L221 w38 w40 k N 0 = some r) hf
                            have JK50 : ∀ (x51 : Int32) (ls : Array Slot), lv_has ls 9 [(0, .ref hm), (1, .int a0), (2, .int a1), (3, .int a2), (4, .int a3), (5, .int a4), (6, .int x21), (7, .int x51)] → K50 x51 = some r → W p l e (headSpec wsX5_addBond ({ frames := 2, cells := 1, slots := 14, locals := 60 })).room s m ([.ref hm, .int a0, .int a1, .int a2, .int a3, .int a4] : List Value).toArray below meth c H locs 0 0 (MQ below (mQi D A r.1 [eM hm mh mo my mp r.2.1 mc, eH cI mh mhol, eO cI mo r.2.2.1, eY cI my r.2.2.2, eP cJ mp mpd]) ([.ref hm, .int a0, .int a1, .int a2, .int a3, .int a4] : List Value).toArray s 1 14 A) (F0 m 251 ls []) := by
                              intro x51 ls hl hf
                              rw [hK50] at hf
                              refine lv_bipush (v := 14) hx hb dX5_addBond_251 (by decide) ?_
                              refine va_newa (atype := .int) (a0 := (14, .inl (fun _ => 0))) hx hb (hts (.arrayClass .int) (by decide +kernel)) rfl hK hP hD hS hA (fun _ => rfl) (by decide) rfl (Nat.le_of_ble_eq_true rfl) (Nat.le_of_ble_eq_true rfl) (Nat.le_of_ble_eq_true rfl) dX5_addBond_253 (fun q57 cA H hK hP hD hS => ?_)
                              obtain rfl := ka_eq hK (by decide) 0 3 rfl rfl
                              have hK := hK.sub (tys' := ty3 cI cJ cO) [0, 1, 2] rfl
                              have hP : va_P D vwCl [eM hm mh mo my mp w38 mc, eH cI mh mhol, eO cI mo w39, eY cI my w40, eP cJ mp mpd, (q57, .inl (cI, 14, .inl (fun _ => 0)))] H := hP
                              have hD : va_D A [eM hm mh mo my mp w38 mc, eH cI mh mhol, eO cI mo w39, eY cI my w40, eP cJ mp mpd, (q57, .inl (cI, 14, .inl (fun _ => 0)))] := hD
                              refine W.widen (k := 1) (n := 14) (Nat.le_of_ble_eq_true rfl) (Nat.le_of_ble_eq_true rfl) ?_
                              refine lv_dup hx hb dX5_addBond_255 rfl ?_
                              refine lv_iconst (v := 0) hx hb dX5_addBond_256 (by decide) ?_
                              refine lv_iload_n hx hb dX5_addBond_257 rfl (lv_at hl 1 rfl) ?_
                              obtain ⟨v58, hv58, hf⟩ := ob hf
                              refine cSi (W.runS (As := [.int a0]) (rest := [.int 0, .ref q57, .ref q57]) ⟨hx, hb, hml, hown, hts⟩ (m_X5_number l D cI cJ cO a0 N v58 hv58) (va_cwS 1 hts gX5_addBond_X5_number rfl rfl rfl (by decide +kernel) ⟨(Nat.le_of_ble_eq_true rfl), (Nat.le_of_ble_eq_true rfl)⟩) ⟨pw_blind, fun U hU hW => ⟨rfl, pw_at hZ hS hP hK hU hW (Or.inr rfl) [] rfl⟩⟩ rfl rfl hl.1 rfl (lv_room (Nat.le_of_ble_eq_true rfl)) dX5_addBond_258 ⟨(Nat.le_of_ble_eq_true rfl), (Nat.le_of_ble_eq_true rfl)⟩) ?_
                              obtain ⟨c59, hf⟩ := gd_s hf
                              refine va_iast hx hb hK hP hD hS 5 0 rfl rfl c59 dX5_addBond_261 (fun H locs hP hD hS => ?_)
                              obtain ⟨w60, ew60⟩ : ∃ z, z = upd (fun _ => 0) (0 : Int32).toNatClampNeg v58 := ⟨_, rfl⟩
                              have hf := bd_s hf ew60
                              rw [← ew60] at hP hD
                              have hP : va_P D vwCl [eM hm mh mo my mp w38 mc, eH cI mh mhol, eO cI mo w39, eY cI my w40, eP cJ mp mpd, (q57, .inl (cI, 14, .inl w60))] H := hP
                              have hD : va_D A [eM hm mh mo my mp w38 mc, eH cI mh mhol, eO cI mo w39, eY cI my w40, eP cJ mp mpd, (q57, .inl (cI, 14, .inl w60))] := hD
                              refine lv_dup hx hb dX5_addBond_262 rfl ?_
                              refine lv_iconst (v := 1) hx hb dX5_addBond_263 (by decide) ?_
                              refine lv_iload_n hx hb dX5_addBond_264 rfl (lv_at hl 2 rfl) ?_
                              obtain ⟨v61, hv61, hf⟩ := ob hf
                              refine cSi (W.runS (As := [.int a1]) (rest := [.int 1, .ref q57, .ref q57]) ⟨hx, hb, hml, hown, hts⟩ (m_X5_number l D cI cJ cO a1 N v61 hv61) (va_cwS 1 hts gX5_addBond_X5_number rfl rfl rfl (by decide +kernel) ⟨(Nat.le_of_ble_eq_true rfl), (Nat.le_of_ble_eq_true rfl)⟩) ⟨pw_blind, fun U hU hW => ⟨rfl, pw_at hZ hS hP hK hU hW (Or.inr rfl) [] rfl⟩⟩ rfl rfl hl.1 rfl (lv_room (Nat.le_of_ble_eq_true rfl)) dX5_addBond_265 ⟨(Nat.le_of_ble_eq_true rfl), (Nat.le_of_ble_eq_true rfl)⟩) ?_
                              obtain ⟨c62, hf⟩ := gd_s hf
                              refine va_iast hx hb hK hP hD hS 5 0 rfl rfl c62 dX5_addBond_268 (fun H locs hP hD hS => ?_)
                              obtain ⟨w63, ew63⟩ : ∃ z, z = upd w60 (1 : Int32).toNatClampNeg v61 := ⟨_, rfl⟩
                              have hf := bd_s hf ew63
                              rw [← ew63] at hP hD
                              have hP : va_P D vwCl [eM hm mh mo my mp w38 mc, eH cI mh mhol, eO cI mo w39, eY cI my w40, eP cJ mp mpd, (q57, .inl (cI, 14, .inl w63))] H := hP
                              have hD : va_D A [eM hm mh mo my mp w38 mc, eH cI mh mhol, eO cI mo w39, eY cI my w40, eP cJ mp mpd, (q57, .inl (cI, 14, .inl w63))] := hD
                              refine lv_dup hx hb dX5_addBond_269 rfl ?_
                              refine lv_iconst (v := 2) hx hb dX5_addBond_270 (by decide) ?_
                              refine lv_iload_n hx hb dX5_addBond_271 rfl (lv_at hl 3 rfl) ?_
                              obtain ⟨c64, hf⟩ := gd_s hf
                              refine va_iast hx hb hK hP hD hS 5 0 rfl rfl c64 dX5_addBond_272 (fun H locs hP hD hS => ?_)
                              obtain ⟨w65, ew65⟩ : ∃ z, z = upd w63 (2 : Int32).toNatClampNeg a2 := ⟨_, rfl⟩
                              have hf := bd_s hf ew65
                              rw [← ew65] at hP hD
                              have hP : va_P D vwCl [eM hm mh mo my mp w38 mc, eH cI mh mhol, eO cI mo w39, eY cI my w40, eP cJ mp mpd, (q57, .inl (cI, 14, .inl w65))] H := hP
                              have hD : va_D A [eM hm mh mo my mp w38 mc, eH cI mh mhol, eO cI mo w39, eY cI my w40, eP cJ mp mpd, (q57, .inl (cI, 14, .inl w65))] := hD
                              refine lv_dup hx hb dX5_addBond_273 rfl ?_
                              refine lv_iconst (v := 3) hx hb dX5_addBond_274 (by decide) ?_
                              refine lv_iload hx hb dX5_addBond_275 (lv_at hl 4 rfl) ?_
                              obtain ⟨c66, hf⟩ := gd_s hf
                              refine va_iast hx hb hK hP hD hS 5 0 rfl rfl c66 dX5_addBond_277 (fun H locs hP hD hS => ?_)
                              obtain ⟨w67, ew67⟩ : ∃ z, z = upd w65 (3 : Int32).toNatClampNeg a3 := ⟨_, rfl⟩
                              have hf := bd_s hf ew67
                              rw [← ew67] at hP hD
                              have hP : va_P D vwCl [eM hm mh mo my mp w38 mc, eH cI mh mhol, eO cI mo w39, eY cI my w40, eP cJ mp mpd, (q57, .inl (cI, 14, .inl w67))] H := hP
                              have hD : va_D A [eM hm mh mo my mp w38 mc, eH cI mh mhol, eO cI mo w39, eY cI my w40, eP cJ mp mpd, (q57, .inl (cI, 14, .inl w67))] := hD
                              refine lv_dup hx hb dX5_addBond_278 rfl ?_
                              refine lv_iconst (v := 4) hx hb dX5_addBond_279 (by decide) ?_
                              refine lv_iload hx hb dX5_addBond_280 (lv_at hl 5 rfl) ?_
                              obtain ⟨c68, hf⟩ := gd_s hf
                              refine va_iast hx hb hK hP hD hS 5 0 rfl rfl c68 dX5_addBond_282 (fun H locs hP hD hS => ?_)
                              obtain ⟨w69, ew69⟩ : ∃ z, z = upd w67 (4 : Int32).toNatClampNeg a4 := ⟨_, rfl⟩
                              have hf := bd_s hf ew69
                              rw [← ew69] at hP hD
                              have hP : va_P D vwCl [eM hm mh mo my mp w38 mc, eH cI mh mhol, eO cI mo w39, eY cI my w40, eP cJ mp mpd, (q57, .inl (cI, 14, .inl w69))] H := hP
                              have hD : va_D A [eM hm mh mo my mp w38 mc, eH cI mh mhol, eO cI mo w39, eY cI my w40, eP cJ mp mpd, (q57, .inl (cI, 14, .inl w69))] := hD
                              refine lv_dup hx hb dX5_addBond_283 rfl ?_
                              refine lv_iconst (v := 5) hx hb dX5_addBond_284 (by decide) ?_
                              refine lv_sipush (v := 10000) hx hb dX5_addBond_285 (by decide) ?_
                              obtain ⟨c70, hf⟩ := gd_s hf
                              refine va_iast hx hb hK hP hD hS 5 0 rfl rfl c70 dX5_addBond_288 (fun H locs hP hD hS => ?_)
                              obtain ⟨w71, ew71⟩ : ∃ z, z = upd w69 (5 : Int32).toNatClampNeg (10000 : Int32) := ⟨_, rfl⟩
                              have hf := bd_s hf ew71
                              rw [← ew71] at hP hD
                              have hP : va_P D vwCl [eM hm mh mo my mp w38 mc, eH cI mh mhol, eO cI mo w39, eY cI my w40, eP cJ mp mpd, (q57, .inl (cI, 14, .inl w71))] H := hP
                              have hD : va_D A [eM hm mh mo my mp w38 mc, eH cI mh mhol, eO cI mo w39, eY cI my w40, eP cJ mp mpd, (q57, .inl (cI, 14, .inl w71))] := hD
                              refine lv_dup hx hb dX5_addBond_289 rfl ?_
                              refine lv_bipush (v := 6) hx hb dX5_addBond_290 (by decide) ?_
                              refine lv_iload hx hb dX5_addBond_292 (lv_at hl 6 rfl) ?_
                              obtain ⟨c72, hf⟩ := gd_s hf
                              refine va_iast hx hb hK hP hD hS 5 0 rfl rfl c72 dX5_addBond_294 (fun H locs hP hD hS => ?_)
                              obtain ⟨w73, ew73⟩ : ∃ z, z = upd w71 (6 : Int32).toNatClampNeg x21 := ⟨_, rfl⟩
                              have hf := bd_s hf ew73
                              rw [← ew73] at hP hD
                              have hP : va_P D vwCl [eM hm mh mo my mp w38 mc, eH cI mh mhol, eO cI mo w39, eY cI my w40, eP cJ mp mpd, (q57, .inl (cI, 14, .inl w73))] H := hP
                              have hD : va_D A [eM hm mh mo my mp w38 mc, eH cI mh mhol, eO cI mo w39, eY cI my w40, eP cJ mp mpd, (q57, .inl (cI, 14, .inl w73))] := hD
                              refine lv_dup hx hb dX5_addBond_295 rfl ?_
                              refine lv_bipush (v := 7) hx hb dX5_addBond_296 (by decide) ?_
                              refine lv_iload hx hb dX5_addBond_298 (lv_at hl 7 rfl) ?_
                              obtain ⟨c74, hf⟩ := gd_s hf
                              refine va_iast hx hb hK hP hD hS 5 0 rfl rfl c74 dX5_addBond_300 (fun H locs hP hD hS => ?_)
                              obtain ⟨w75, ew75⟩ : ∃ z, z = upd w73 (7 : Int32).toNatClampNeg x51 := ⟨_, rfl⟩
                              have hf := bd_s hf ew75
                              rw [← ew75] at hP hD
                              have hP : va_P D vwCl [eM hm mh mo my mp w38 mc, eH cI mh mhol, eO cI mo w39, eY cI my w40, eP cJ mp mpd, (q57, .inl (cI, 14, .inl w75))] H := hP
                              have hD : va_D A [eM hm mh mo my mp w38 mc, eH cI mh mhol, eO cI mo w39, eY cI my w40, eP cJ mp mpd, (q57, .inl (cI, 14, .inl w75))] := hD
                              refine lv_dup hx hb dX5_addBond_301 rfl ?_
                              refine lv_bipush (v := 8) hx hb dX5_addBond_302 (by decide) ?_
                              refine lv_iconst (v := 0) hx hb dX5_addBond_304 (by decide) ?_
                              obtain ⟨c76, hf⟩ := gd_s hf
                              refine va_iast hx hb hK hP hD hS 5 0 rfl rfl c76 dX5_addBond_305 (fun H locs hP hD hS => ?_)
                              obtain ⟨w77, ew77⟩ : ∃ z, z = upd w75 (8 : Int32).toNatClampNeg (0 : Int32) := ⟨_, rfl⟩
                              have hf := bd_s hf ew77
                              rw [← ew77] at hP hD
                              have hP : va_P D vwCl [eM hm mh mo my mp w38 mc, eH cI mh mhol, eO cI mo w39, eY cI my w40, eP cJ mp mpd, (q57, .inl (cI, 14, .inl w77))] H := hP
                              have hD : va_D A [eM hm mh mo my mp w38 mc, eH cI mh mhol, eO cI mo w39, eY cI my w40, eP cJ mp mpd, (q57, .inl (cI, 14, .inl w77))] := hD
                              refine lv_dup hx hb dX5_addBond_306 rfl ?_
                              refine lv_bipush (v := 9) hx hb dX5_addBond_307 (by decide) ?_
                              refine lv_iconst (v := 0) hx hb dX5_addBond_309 (by decide) ?_
                              obtain ⟨c78, hf⟩ := gd_s hf
                              refine va_iast hx hb hK hP hD hS 5 0 rfl rfl c78 dX5_addBond_310 (fun H locs hP hD hS => ?_)
                              obtain ⟨w79, ew79⟩ : ∃ z, z = upd w77 (9 : Int32).toNatClampNeg (0 : Int32) := ⟨_, rfl⟩
                              have hf := bd_s hf ew79
                              rw [← ew79] at hP hD
                              have hP : va_P D vwCl [eM hm mh mo my mp w38 mc, eH cI mh mhol, eO cI mo w39, eY cI my w40, eP cJ mp mpd, (q57, .inl (cI, 14, .inl w79))] H := hP
                              have hD : va_D A [eM hm mh mo my mp w38 mc, eH cI mh mhol, eO cI mo w39, eY cI my w40, eP cJ mp mpd, (q57, .inl (cI, 14, .inl w79))] := hD
                              refine lv_dup hx hb dX5_addBond_311 rfl ?_
                              refine lv_bipush (v := 10) hx hb dX5_addBond_312 (by decide) ?_
                              refine lv_iconst (v := 0) hx hb dX5_addBond_314 (by decide) ?_
                              obtain ⟨c80, hf⟩ := gd_s hf
                              refine va_iast hx hb hK hP hD hS 5 0 rfl rfl c80 dX5_addBond_315 (fun H locs hP hD hS => ?_)
                              obtain ⟨w81, ew81⟩ : ∃ z, z = upd w79 (10 : Int32).toNatClampNeg (0 : Int32) := ⟨_, rfl⟩
                              have hf := bd_s hf ew81
                              rw [← ew81] at hP hD
                              have hP : va_P D vwCl [eM hm mh mo my mp w38 mc, eH cI mh mhol, eO cI mo w39, eY cI my w40, eP cJ mp mpd, (q57, .inl (cI, 14, .inl w81))] H := hP
                              have hD : va_D A [eM hm mh mo my mp w38 mc, eH cI mh mhol, eO cI mo w39, eY cI my w40, eP cJ mp mpd, (q57, .inl (cI, 14, .inl w81))] := hD
                              refine lv_dup hx hb dX5_addBond_316 rfl ?_
                              refine lv_bipush (v := 11) hx hb dX5_addBond_317 (by decide) ?_
                              refine lv_iconst (v := 0) hx hb dX5_addBond_319 (by decide) ?_
                              obtain ⟨c82, hf⟩ := gd_s hf
                              refine va_iast hx hb hK hP hD hS 5 0 rfl rfl c82 dX5_addBond_320 (fun H locs hP hD hS => ?_)
                              obtain ⟨w83, ew83⟩ : ∃ z, z = upd w81 (11 : Int32).toNatClampNeg (0 : Int32) := ⟨_, rfl⟩
                              have hf := bd_s hf ew83
                              rw [← ew83] at hP hD
                              have hP : va_P D vwCl [eM hm mh mo my mp w38 mc, eH cI mh mhol, eO cI mo w39, eY cI my w40, eP cJ mp mpd, (q57, .inl (cI, 14, .inl w83))] H := hP
                              have hD : va_D A [eM hm mh mo my mp w38 mc, eH cI mh mhol, eO cI mo w39, eY cI my w40, eP cJ mp mpd, (q57, .inl (cI, 14, .inl w83))] := hD
                              refine lv_dup hx hb dX5_addBond_321 rfl ?_
                              refine lv_bipush (v := 12) hx hb dX5_addBond_322 (by decide) ?_
                              refine lv_iconst (v := 0) hx hb dX5_addBond_324 (by decide) ?_
                              obtain ⟨c84, hf⟩ := gd_s hf
                              refine va_iast hx hb hK hP hD hS 5 0 rfl rfl c84 dX5_addBond_325 (fun H locs hP hD hS => ?_)
                              obtain ⟨w85, ew85⟩ : ∃ z, z = upd w83 (12 : Int32).toNatClampNeg (0 : Int32) := ⟨_, rfl⟩
                              have hf := bd_s hf ew85
                              rw [← ew85] at hP hD
                              have hP : va_P D vwCl [eM hm mh mo my mp w38 mc, eH cI mh mhol, eO cI mo w39, eY cI my w40, eP cJ mp mpd, (q57, .inl (cI, 14, .inl w85))] H := hP
                              have hD : va_D A [eM hm mh mo my mp w38 mc, eH cI mh mhol, eO cI mo w39, eY cI my w40, eP cJ mp mpd, (q57, .inl (cI, 14, .inl w85))] := hD
                              refine lv_dup hx hb dX5_addBond_326 rfl ?_
                              refine lv_bipush (v := 13) hx hb dX5_addBond_327 (by decide) ?_
                              refine lv_iconst (v := 0) hx hb dX5_addBond_329 (by decide) ?_
                              obtain ⟨c86, hf⟩ := gd_s hf
                              refine va_iast hx hb hK hP hD hS 5 0 rfl rfl c86 dX5_addBond_330 (fun H locs hP hD hS => ?_)
                              obtain ⟨w87, ew87⟩ : ∃ z, z = upd w85 (13 : Int32).toNatClampNeg (0 : Int32) := ⟨_, rfl⟩
                              have hf := bd_s hf ew87
                              rw [← ew87] at hP hD
                              have hP : va_P D vwCl [eM hm mh mo my mp w38 mc, eH cI mh mhol, eO cI mo w39, eY cI my w40, eP cJ mp mpd, (q57, .inl (cI, 14, .inl w87))] H := hP
                              have hD : va_D A [eM hm mh mo my mp w38 mc, eH cI mh mhol, eO cI mo w39, eY cI my w40, eP cJ mp mpd, (q57, .inl (cI, 14, .inl w87))] := hD
                              refine lv_astore (lv' := [(8, .ref q57), (0, .ref hm), (1, .int a0), (2, .int a1), (3, .int a2), (4, .int a3), (5, .int a4), (6, .int x21), (7, .int x51)]) hx hb dX5_addBond_331 hl (by decide) rfl (fun ls hl => ?_)
                              refine lv_aload hx hb dX5_addBond_333 (lv_at hl 0 rfl) ?_
                              refine lv_iconst (v := 0) hx hb dX5_addBond_335 (by decide) ?_
                              refine lv_aload_n hx hb dX5_addBond_336 rfl (lv_at hl 1 rfl) ?_
                              refine va_get (D := D) (ci := 4) (v := .ref mo) (C := RX5) (T := TX5) (N := 10) hx hb hts inX5_addBond_X5 hown hK hP 0 rfl rfl 7 (by decide) (hts (.fieldLink RX5 31 "BondDeskModel" "of" "[I") (by decide +kernel)) (fun _ h9 => h9) rfl dX5_addBond_337 ?_
                              refine lv_bipush (v := 14) hx hb dX5_addBond_340 (by decide) ?_
                              refine lv_aload_n hx hb dX5_addBond_342 rfl (lv_at hl 1 rfl) ?_
                              refine va_get (D := D) (ci := 4) (v := .int (w38 4)) (C := RX5) (T := TX5) (N := 10) hx hb hts inX5_addBond_X5 hown hK hP 0 rfl rfl 4 (by decide) (hts (.fieldLink RX5 77 "BondDeskModel" "bonds" "I") (by decide +kernel)) (fun _ h9 => h9) rfl dX5_addBond_343 ?_
                              refine lv_imul hx hb dX5_addBond_346 ?_
                              refine lv_bipush (v := 14) hx hb dX5_addBond_347 (by decide) ?_
                              obtain ⟨c88, hf⟩ := gd_s hf
                              obtain ⟨c89, hf⟩ := gd_s hf
                              refine va_copyi hx hb (hml.trans hl.1.symm) hown (hts (.methodLink RX5 88 arraycopyName) (by decide +kernel)) (hts (.native arraycopyName) (by decide +kernel)) (hts (.static arraycopyName) (by decide +kernel)) (hts (.initialized "java/lang/System") (by decide +kernel)) hK hP hD hS 5 2 0 0 rfl rfl rfl rfl rfl (by decide) c88 (by decide) (by decide) c89 (fun _ _ => rfl) (Nat.le_of_ble_eq_true rfl) (Nat.le_of_ble_eq_true rfl) dX5_addBond_349 (fun H locs hP hD hS => ?_)
                              obtain ⟨w90, ew90⟩ : ∃ z, z = va_cpy w87 w39 (0 : Int32).toNatClampNeg (14 * (w38 4)).toNatClampNeg (14 : Int32).toNatClampNeg := ⟨_, rfl⟩
                              have hf := bd_s hf ew90
                              rw [← ew90] at hP hD
                              have hP : va_P D vwCl [eM hm mh mo my mp w38 mc, eH cI mh mhol, eO cI mo w90, eY cI my w40, eP cJ mp mpd, (q57, .inl (cI, 14, .inl w87))] H := hP
                              have hD : va_D A [eM hm mh mo my mp w38 mc, eH cI mh mhol, eO cI mo w90, eY cI my w40, eP cJ mp mpd, (q57, .inl (cI, 14, .inl w87))] := hD
                              refine lv_aload_n hx hb dX5_addBond_352 rfl (lv_at hl 1 rfl) ?_
                              refine lv_dup hx hb dX5_addBond_353 rfl ?_
                              refine va_get (D := D) (ci := 4) (v := .int (w38 4)) (C := RX5) (T := TX5) (N := 10) hx hb hts inX5_addBond_X5 hown hK hP 0 rfl rfl 4 (by decide) (hts (.fieldLink RX5 77 "BondDeskModel" "bonds" "I") (by decide +kernel)) (fun _ h9 => h9) rfl dX5_addBond_354 ?_
                              refine lv_iconst (v := 1) hx hb dX5_addBond_357 (by decide) ?_
                              refine lv_iadd hx hb dX5_addBond_358 ?_
                              refine lv_topi (fun x91 ex91 => ?_)
                              have hf := bd_s hf ex91
                              refine va_put (D := D) (ci := 4) (v := .int x91) (ty := .int) (C := RX5) (T := TX5) (N := 10) hx hb hts inX5_addBond_X5 tyX5 tyX5_ok nmX5 hown hK hP hD hS 0 rfl rfl 4 (by decide) (hts (.fieldLink RX5 77 "BondDeskModel" "bonds" "I") (by decide +kernel)) (fun _ h9 => h9) rfl (by decide +kernel) rfl rfl (Nat.le_of_ble_eq_true rfl) dX5_addBond_359 (fun H locs hP hD hS => ?_)
                              have hP : va_P D vwCl [eM hm mh mo my mp (va_up w38 4 x91) mc, eH cI mh mhol, eO cI mo w90, eY cI my w40, eP cJ mp mpd, (q57, .inl (cI, 14, .inl w87))] H := hP
                              have hD : va_D A [eM hm mh mo my mp (va_up w38 4 x91) mc, eH cI mh mhol, eO cI mo w90, eY cI my w40, eP cJ mp mpd, (q57, .inl (cI, 14, .inl w87))] := hD
                              refine lv_aload_n hx hb dX5_addBond_362 rfl (lv_at hl 1 rfl) ?_
                              refine va_get (D := D) (ci := 4) (v := .int x91) (C := RX5) (T := TX5) (N := 10) hx hb hts inX5_addBond_X5 hown hK hP 0 rfl rfl 4 (by decide) (hts (.fieldLink RX5 77 "BondDeskModel" "bonds" "I") (by decide +kernel)) (fun _ h9 => h9) rfl dX5_addBond_363 ?_
                              refine lv_iconst (v := 1) hx hb dX5_addBond_366 (by decide) ?_
                              refine lv_isub hx hb dX5_addBond_367 ?_
                              refine W.widen (k := 1) (n := 14) (Nat.le_of_ble_eq_true rfl) (Nat.le_of_ble_eq_true rfl) ?_
                              have e9 := Option.some.inj hf
                              subst e9
                              have hP := hP.sub (ws' := [eM hm mh mo my mp (va_up w38 4 x91) mc, eH cI mh mhol, eO cI mo w90, eY cI my w40, eP cJ mp mpd]) [0, 1, 2, 3, 4] rfl
                              have hD := hD.sub (ws' := [eM hm mh mo my mp (va_up w38 4 x91) mc, eH cI mh mhol, eO cI mo w90, eY cI my w40, eP cJ mp mpd]) [0, 1, 2, 3, 4] (by decide) rfl
                              exact W.iret hx hb hr (fun t ht hW => ⟨⟨_, (), rfl, rfl, by rw [ht]; exact hP, hD⟩, hS.F ht⟩) hS.2.2 dX5_addBond_368
                            have LP221 : ∀ (n52 : Nat) (x49 : Int32) (ls : Array Slot), lv_has ls 9 [(0, .ref hm), (1, .int a0), (2, .int a1), (3, .int a2), (4, .int a3), (5, .int a4), (6, .int x21), (7, .int x49)] → f_X5_addBond_L221 w38 w40 K50 n52 x49 = some r → W p l e (headSpec wsX5_addBond ({ frames := 2, cells := 1, slots := 14, locals := 60 })).room s m ([.ref hm, .int a0, .int a1, .int a2, .int a3, .int a4] : List Value).toArray below meth c H locs 0 0 (MQ below (mQi D A r.1 [eM hm mh mo my mp r.2.1 mc, eH cI mh mhol, eO cI mo r.2.2.1, eY cI my r.2.2.2, eP cJ mp mpd]) ([.ref hm, .int a0, .int a1, .int a2, .int a3, .int a4] : List Value).toArray s 1 14 A) (F0 m 221 ls []) := by
                              intro n52
                              induction n52 with
                              | zero => intro x49 ls hl hf; exact (no_s hf).elim
                              | succ n52 ih52 =>
                                intro x49 ls hl hf
                                rw [f_X5_addBond_L221] at hf
                                refine lv_aload_n hx hb dX5_addBond_221 rfl (lv_at hl 0 rfl) ?_
                                refine va_get (D := D) (ci := 4) (v := .ref my) (C := RX5) (T := TX5) (N := 10) hx hb hts inX5_addBond_X5 hown hK hP 0 rfl rfl 8 (by decide) (hts (.fieldLink RX5 34 "BondDeskModel" "day" "[I") (by decide +kernel)) (fun _ h9 => h9) rfl dX5_addBond_222 ?_
                                refine lv_bipush (v := 121) hx hb dX5_addBond_225 (by decide) ?_
                                refine lv_aload_n hx hb dX5_addBond_227 rfl (lv_at hl 0 rfl) ?_
                                refine va_get (D := D) (ci := 4) (v := .int (w38 4)) (C := RX5) (T := TX5) (N := 10) hx hb hts inX5_addBond_X5 hown hK hP 0 rfl rfl 4 (by decide) (hts (.fieldLink RX5 77 "BondDeskModel" "bonds" "I") (by decide +kernel)) (fun _ h9 => h9) rfl dX5_addBond_228 ?_
                                refine lv_imul hx hb dX5_addBond_231 ?_
                                refine lv_iload hx hb dX5_addBond_232 (lv_at hl 7 rfl) ?_
                                refine lv_iadd hx hb dX5_addBond_234 ?_
                                refine lv_iconst (v := 1) hx hb dX5_addBond_235 (by decide) ?_
                                refine lv_iadd hx hb dX5_addBond_236 ?_
                                refine lv_topi (fun x53 ex53 => ?_)
                                have hf := bd_s hf ex53
                                obtain ⟨c54, hf⟩ := gd_s hf
                                refine va_iald hx hb hK hP 3 0 rfl rfl c54 dX5_addBond_237 ?_
                                refine lv_aload_n hx hb dX5_addBond_238 rfl (lv_at hl 0 rfl) ?_
                                refine va_get (D := D) (ci := 4) (v := .int (w38 1)) (C := RX5) (T := TX5) (N := 10) hx hb hts inX5_addBond_X5 hown hK hP 0 rfl rfl 1 (by decide) (hts (.fieldLink RX5 14 "BondDeskModel" "today" "I") (by decide +kernel)) (fun _ h9 => h9) rfl dX5_addBond_239 ?_
                                refine lv_icmp_gt (tgt := 251) hx hb dX5_addBond_242 (by decide) (fun c55 => ?_) (fun c55 => ?_)
                                · have hf := it hf c55
                                  exact JK50 x49 ls (lv_sub hl [0, 1, 2, 3, 4, 5, 6, 7] rfl) hf
                                · have hf := ie hf c55
                                  obtain ⟨x56, ex56⟩ : ∃ y : Int32, y = x49 + 1 := ⟨_, rfl⟩
                                  have hf := bd_s hf ex56
                                  refine lv_iinc (v := x56) (lv' := [(7, .int x56), (0, .ref hm), (1, .int a0), (2, .int a1), (3, .int a2), (4, .int a3), (5, .int a4), (6, .int x21)]) hx hb dX5_addBond_245 hl (k := 7) rfl (by rw [ex56]; rfl) (by decide) rfl (fun ls hl => ?_)
                                  refine lv_goto (tgt := 221) hx hb dX5_addBond_248 (by decide) ?_
                                  exact ih52 x56 ls (lv_sub hl [1, 2, 3, 4, 5, 6, 7, 0] rfl) hf
                            exact LP221 N 0 ls (lv_sub hl [1, 2, 3, 4, 5, 6, 7, 0] rfl) hf
                          have LP172 : ∀ (n41 : Nat) (x33 : Int32) (w34 : Nat → Int32) (w35 : Nat → Int32) (w36 : Nat → Int32) (H : Heap) (locs : List Loc), va_P D vwCl [eM hm mh mo my mp w34 mc, eH cI mh mhol, eO cI mo w35, eY cI my w36, eP cJ mp mpd] H → va_D A [eM hm mh mo my mp w34 mc, eH cI mh mhol, eO cI mo w35, eY cI my w36, eP cJ mp mpd] → va_S A s.heap H locs → ∀ (ls : Array Slot), lv_has ls 9 [(0, .ref hm), (1, .int a0), (2, .int a1), (3, .int a2), (4, .int a3), (5, .int a4), (6, .int x21), (7, .int x33)] → f_X5_addBond_L172 x21 a3 a1 N K37 n41 x33 w34 w35 w36 = some r → W p l e (headSpec wsX5_addBond ({ frames := 2, cells := 1, slots := 14, locals := 60 })).room s m ([.ref hm, .int a0, .int a1, .int a2, .int a3, .int a4] : List Value).toArray below meth c H locs 0 0 (MQ below (mQi D A r.1 [eM hm mh mo my mp r.2.1 mc, eH cI mh mhol, eO cI mo r.2.2.1, eY cI my r.2.2.2, eP cJ mp mpd]) ([.ref hm, .int a0, .int a1, .int a2, .int a3, .int a4] : List Value).toArray s 1 14 A) (F0 m 172 ls []) := by
                            intro n41
                            induction n41 with
                            | zero => intro x33 w34 w35 w36 H locs hP hD hS ls hl hf; exact (no_s hf).elim
                            | succ n41 ih41 =>
                              intro x33 w34 w35 w36 H locs hP hD hS ls hl hf
                              rw [f_X5_addBond_L172] at hf
                              refine lv_iload hx hb dX5_addBond_172 (lv_at hl 7 rfl) ?_
                              refine lv_iload hx hb dX5_addBond_174 (lv_at hl 6 rfl) ?_
                              refine lv_icmp_gt (tgt := 218) hx hb dX5_addBond_176 (by decide) (fun c42 => ?_) (fun c42 => ?_)
                              · have hf := it hf c42
                                exact JK37 w34 w35 w36 _ _ hP hD hS ls (lv_sub hl [0, 1, 2, 3, 4, 5, 6] rfl) hf
                              · have hf := ie hf c42
                                refine lv_aload_n hx hb dX5_addBond_179 rfl (lv_at hl 0 rfl) ?_
                                refine va_get (D := D) (ci := 4) (v := .ref my) (C := RX5) (T := TX5) (N := 10) hx hb hts inX5_addBond_X5 hown hK hP 0 rfl rfl 8 (by decide) (hts (.fieldLink RX5 34 "BondDeskModel" "day" "[I") (by decide +kernel)) (fun _ h9 => h9) rfl dX5_addBond_180 ?_
                                refine lv_bipush (v := 121) hx hb dX5_addBond_183 (by decide) ?_
                                refine lv_aload_n hx hb dX5_addBond_185 rfl (lv_at hl 0 rfl) ?_
                                refine va_get (D := D) (ci := 4) (v := .int (w34 4)) (C := RX5) (T := TX5) (N := 10) hx hb hts inX5_addBond_X5 hown hK hP 0 rfl rfl 4 (by decide) (hts (.fieldLink RX5 77 "BondDeskModel" "bonds" "I") (by decide +kernel)) (fun _ h9 => h9) rfl dX5_addBond_186 ?_
                                refine lv_imul hx hb dX5_addBond_189 ?_
                                refine lv_iload hx hb dX5_addBond_190 (lv_at hl 7 rfl) ?_
                                refine lv_iadd hx hb dX5_addBond_192 ?_
                                refine lv_iload_n hx hb dX5_addBond_193 rfl (lv_at hl 2 rfl) ?_
                                refine lv_bipush (v := 12) hx hb dX5_addBond_194 (by decide) ?_
                                refine lv_iload hx hb dX5_addBond_196 (lv_at hl 4 rfl) ?_
                                obtain ⟨c43, hf⟩ := gd_s hf
                                refine lv_idiv hx hb dX5_addBond_198 c43 ?_
                                refine lv_iload hx hb dX5_addBond_199 (lv_at hl 6 rfl) ?_
                                refine lv_iload hx hb dX5_addBond_201 (lv_at hl 7 rfl) ?_
                                refine lv_isub hx hb dX5_addBond_203 ?_
                                refine lv_imul hx hb dX5_addBond_204 ?_
                                obtain ⟨v44, hv44, hf⟩ := ob hf
                                refine cSi (W.runS (As := [.int a1, .int ((12 / a3) * (x21 - x33))]) (rest := [.int ((121 * (w34 4)) + x33), .ref my]) ⟨hx, hb, hml, hown, hts⟩ (m_X5_moved l D cI cJ cO a1 ((12 / a3) * (x21 - x33)) v44 hv44) (va_cwS 2 hts gX5_addBond_X5_moved rfl rfl rfl (by decide +kernel) ⟨(Nat.le_of_ble_eq_true rfl), (Nat.le_of_ble_eq_true rfl)⟩) ⟨pw_blind, fun U hU hW => ⟨rfl, pw_at hZ hS hP hK hU hW (Or.inr rfl) [] rfl⟩⟩ rfl rfl hl.1 rfl (lv_room (Nat.le_of_ble_eq_true rfl)) dX5_addBond_205 ⟨(Nat.le_of_ble_eq_true rfl), (Nat.le_of_ble_eq_true rfl)⟩) ?_
                                obtain ⟨v45, hv45, hf⟩ := ob hf
                                refine cSi (W.runS (As := [.int v44]) (rest := [.int ((121 * (w34 4)) + x33), .ref my]) ⟨hx, hb, hml, hown, hts⟩ (m_X5_number l D cI cJ cO v44 N v45 hv45) (va_cwS 1 hts gX5_addBond_X5_number rfl rfl rfl (by decide +kernel) ⟨(Nat.le_of_ble_eq_true rfl), (Nat.le_of_ble_eq_true rfl)⟩) ⟨pw_blind, fun U hU hW => ⟨rfl, pw_at hZ hS hP hK hU hW (Or.inr rfl) [] rfl⟩⟩ rfl rfl hl.1 rfl (lv_room (Nat.le_of_ble_eq_true rfl)) dX5_addBond_208 ⟨(Nat.le_of_ble_eq_true rfl), (Nat.le_of_ble_eq_true rfl)⟩) ?_
                                obtain ⟨c46, hf⟩ := gd_s hf
                                refine va_iast hx hb hK hP hD hS 3 0 rfl rfl c46 dX5_addBond_211 (fun H locs hP hD hS => ?_)
                                obtain ⟨w47, ew47⟩ : ∃ z, z = upd w36 ((121 * (w34 4)) + x33).toNatClampNeg v45 := ⟨_, rfl⟩
                                have hf := bd_s hf ew47
                                rw [← ew47] at hP hD
                                have hP : va_P D vwCl [eM hm mh mo my mp w34 mc, eH cI mh mhol, eO cI mo w35, eY cI my w47, eP cJ mp mpd] H := hP
                                have hD : va_D A [eM hm mh mo my mp w34 mc, eH cI mh mhol, eO cI mo w35, eY cI my w47, eP cJ mp mpd] := hD
                                obtain ⟨x48, ex48⟩ : ∃ y : Int32, y = x33 + 1 := ⟨_, rfl⟩
                                have hf := bd_s hf ex48
                                refine lv_iinc (v := x48) (lv' := [(7, .int x48), (0, .ref hm), (1, .int a0), (2, .int a1), (3, .int a2), (4, .int a3), (5, .int a4), (6, .int x21)]) hx hb dX5_addBond_212 hl (k := 7) rfl (by rw [ex48]; rfl) (by decide) rfl (fun ls hl => ?_)
                                refine lv_goto (tgt := 172) hx hb dX5_addBond_215 (by decide) ?_
                                exact ih41 x48 w34 w35 w47 _ _ hP hD hS ls (lv_sub hl [1, 2, 3, 4, 5, 6, 7, 0] rfl) hf
                          exact LP172 N 0 (va_up M 0 (0 : Int32)) mof mdy _ _ hP hD hS ls (lv_sub hl [1, 2, 3, 4, 5, 6, 7, 0] rfl) hf
                        · have hf := it hf c32
                          refine lv_aload_n hx hb dX5_addBond_163 rfl (lv_at hl 0 rfl) ?_
                          refine lv_iconst (v := 2) hx hb dX5_addBond_164 (by decide) ?_
                          obtain ⟨v92, hv92, hf⟩ := ob hf
                          have hPc := hP.sub (ws' := [eM hm mh mo my mp (va_up M 0 (0 : Int32)) mc, eH cI mh mhol, eO cI mo mof, eY cI my mdy, eP cJ mp mpd]) [0, 1, 2, 3, 4] rfl
                          have hDc := hD.sub (ws' := [eM hm mh mo my mp (va_up M 0 (0 : Int32)) mc, eH cI mh mhol, eO cI mo mof, eY cI my mdy, eP cJ mp mpd]) [0, 1, 2, 3, 4] (by decide) rfl
                          have hFc := va_free (wc := [eM hm mh mo my mp (va_up M 0 (0 : Int32)) mc, eH cI mh mhol, eO cI mo mof, eY cI my mdy, eP cJ mp mpd]) hD hS hA [0, 1, 2, 3, 4] rfl
                          refine va_calli (va_runV (As := [.int 2]) (rest := []) ⟨hx, hb, hml, hown, hts⟩ (m_X5_no l D cI cJ cO hm mh mo my mp (va_up M 0 (0 : Int32)) mc mhol mof mdy mpd H.size 2 v92 hv92) (cwV 1 hts gX5_addBond_X5_no rfl rfl rfl (by decide +kernel) ⟨(Nat.le_of_ble_eq_true rfl), (Nat.le_of_ble_eq_true rfl)⟩) ⟨mp_blind, va_recv hK hP (ci := 4) (q0 := 0) rfl rfl, fun U hU hW => ⟨rfl, mp_at hZ hS hPc hK hDc hFc hU hW (Or.inr rfl)⟩⟩ rfl rfl hl.1 rfl (lv_room (Nat.le_of_ble_eq_true rfl)) dX5_addBond_165 ⟨(Nat.le_of_ble_eq_true rfl), (Nat.le_of_ble_eq_true rfl)⟩) hS (fun q _ h => hFc q h) hFc (fun rv92 u t H1 locs ht9 hvm hw hBx hz1 hk1 hS => ?_)
                          subst hw
                          obtain ⟨hP1, hD1⟩ := hBx
                          rw [ht9] at hP1
                          obtain ⟨hP, hD⟩ := va_join (wr := []) (w1 := [eM hm mh mo my mp v92.2 mc, eH cI mh mhol, eO cI mo mof, eY cI my mdy, eP cJ mp mpd]) hP hD [0, 1, 2, 3, 4] [] rfl rfl (by decide) (by decide) hk1 hFc hP1 hD1
                          have hP := hP.sub (ws' := [eM hm mh mo my mp v92.2 mc, eH cI mh mhol, eO cI mo mof, eY cI my mdy, eP cJ mp mpd]) [0, 1, 2, 3, 4] rfl
                          have hD := hD.sub (ws' := [eM hm mh mo my mp v92.2 mc, eH cI mh mhol, eO cI mo mof, eY cI my mdy, eP cJ mp mpd]) [0, 1, 2, 3, 4] (by decide) rfl
                          generalize H1 = H at hP hS ⊢
                          refine W.widen (k := 1) (n := 14) (Nat.le_of_ble_eq_true rfl) (Nat.le_of_ble_eq_true rfl) ?_
                          have e9 := Option.some.inj hf
                          subst e9
                          exact W.iret hx hb hr (fun t ht hW => ⟨⟨_, (), rfl, rfl, by rw [ht]; exact hP, hD⟩, hS.F ht⟩) hS.2.2 dX5_addBond_168
                      · have hf := ie hf c31
                        refine lv_aload_n hx hb dX5_addBond_148 rfl (lv_at hl 0 rfl) ?_
                        refine lv_iconst (v := 1) hx hb dX5_addBond_149 (by decide) ?_
                        obtain ⟨v93, hv93, hf⟩ := ob hf
                        have hPc := hP.sub (ws' := [eM hm mh mo my mp (va_up M 0 (0 : Int32)) mc, eH cI mh mhol, eO cI mo mof, eY cI my mdy, eP cJ mp mpd]) [0, 1, 2, 3, 4] rfl
                        have hDc := hD.sub (ws' := [eM hm mh mo my mp (va_up M 0 (0 : Int32)) mc, eH cI mh mhol, eO cI mo mof, eY cI my mdy, eP cJ mp mpd]) [0, 1, 2, 3, 4] (by decide) rfl
                        have hFc := va_free (wc := [eM hm mh mo my mp (va_up M 0 (0 : Int32)) mc, eH cI mh mhol, eO cI mo mof, eY cI my mdy, eP cJ mp mpd]) hD hS hA [0, 1, 2, 3, 4] rfl
                        refine va_calli (va_runV (As := [.int 1]) (rest := []) ⟨hx, hb, hml, hown, hts⟩ (m_X5_no l D cI cJ cO hm mh mo my mp (va_up M 0 (0 : Int32)) mc mhol mof mdy mpd H.size 1 v93 hv93) (cwV 1 hts gX5_addBond_X5_no rfl rfl rfl (by decide +kernel) ⟨(Nat.le_of_ble_eq_true rfl), (Nat.le_of_ble_eq_true rfl)⟩) ⟨mp_blind, va_recv hK hP (ci := 4) (q0 := 0) rfl rfl, fun U hU hW => ⟨rfl, mp_at hZ hS hPc hK hDc hFc hU hW (Or.inr rfl)⟩⟩ rfl rfl hl.1 rfl (lv_room (Nat.le_of_ble_eq_true rfl)) dX5_addBond_150 ⟨(Nat.le_of_ble_eq_true rfl), (Nat.le_of_ble_eq_true rfl)⟩) hS (fun q _ h => hFc q h) hFc (fun rv93 u t H1 locs ht9 hvm hw hBx hz1 hk1 hS => ?_)
                        subst hw
                        obtain ⟨hP1, hD1⟩ := hBx
                        rw [ht9] at hP1
                        obtain ⟨hP, hD⟩ := va_join (wr := []) (w1 := [eM hm mh mo my mp v93.2 mc, eH cI mh mhol, eO cI mo mof, eY cI my mdy, eP cJ mp mpd]) hP hD [0, 1, 2, 3, 4] [] rfl rfl (by decide) (by decide) hk1 hFc hP1 hD1
                        have hP := hP.sub (ws' := [eM hm mh mo my mp v93.2 mc, eH cI mh mhol, eO cI mo mof, eY cI my mdy, eP cJ mp mpd]) [0, 1, 2, 3, 4] rfl
                        have hD := hD.sub (ws' := [eM hm mh mo my mp v93.2 mc, eH cI mh mhol, eO cI mo mof, eY cI my mdy, eP cJ mp mpd]) [0, 1, 2, 3, 4] (by decide) rfl
                        generalize H1 = H at hP hS ⊢
                        refine W.widen (k := 1) (n := 14) (Nat.le_of_ble_eq_true rfl) (Nat.le_of_ble_eq_true rfl) ?_
                        have e9 := Option.some.inj hf
                        subst e9
                        exact W.iret hx hb hr (fun t ht hW => ⟨⟨_, (), rfl, rfl, by rw [ht]; exact hP, hD⟩, hS.F ht⟩) hS.2.2 dX5_addBond_153
                  have LP102 : ∀ (n22 : Nat) (x19 : Int32) (ls : Array Slot), lv_has ls 9 [(0, .ref hm), (1, .int a0), (2, .int a1), (3, .int a2), (4, .int a3), (5, .int a4), (6, .int x19)] → f_X5_addBond_L102 a3 a1 a0 K20 n22 x19 = some r → W p l e (headSpec wsX5_addBond ({ frames := 2, cells := 1, slots := 14, locals := 60 })).room s m ([.ref hm, .int a0, .int a1, .int a2, .int a3, .int a4] : List Value).toArray below meth c H locs 0 0 (MQ below (mQi D A r.1 [eM hm mh mo my mp r.2.1 mc, eH cI mh mhol, eO cI mo r.2.2.1, eY cI my r.2.2.2, eP cJ mp mpd]) ([.ref hm, .int a0, .int a1, .int a2, .int a3, .int a4] : List Value).toArray s 1 14 A) (F0 m 102 ls []) := by
                    intro n22
                    induction n22 with
                    | zero => intro x19 ls hl hf; exact (no_s hf).elim
                    | succ n22 ih22 =>
                      intro x19 ls hl hf
                      rw [f_X5_addBond_L102] at hf
                      refine lv_iload_n hx hb dX5_addBond_102 rfl (lv_at hl 2 rfl) ?_
                      refine lv_bipush (v := 12) hx hb dX5_addBond_103 (by decide) ?_
                      refine lv_iload hx hb dX5_addBond_105 (lv_at hl 4 rfl) ?_
                      obtain ⟨c23, hf⟩ := gd_s hf
                      refine lv_idiv hx hb dX5_addBond_107 c23 ?_
                      refine lv_iload hx hb dX5_addBond_108 (lv_at hl 6 rfl) ?_
                      refine lv_imul hx hb dX5_addBond_110 ?_
                      obtain ⟨v24, hv24, hf⟩ := ob hf
                      refine cSi (W.runS (As := [.int a1, .int ((12 / a3) * x19)]) (rest := []) ⟨hx, hb, hml, hown, hts⟩ (m_X5_moved l D cI cJ cO a1 ((12 / a3) * x19) v24 hv24) (va_cwS 2 hts gX5_addBond_X5_moved rfl rfl rfl (by decide +kernel) ⟨(Nat.le_of_ble_eq_true rfl), (Nat.le_of_ble_eq_true rfl)⟩) ⟨pw_blind, fun U hU hW => ⟨rfl, pw_at hZ hS hP hK hU hW (Or.inr rfl) [] rfl⟩⟩ rfl rfl hl.1 rfl (lv_room (Nat.le_of_ble_eq_true rfl)) dX5_addBond_111 ⟨(Nat.le_of_ble_eq_true rfl), (Nat.le_of_ble_eq_true rfl)⟩) ?_
                      refine lv_iload_n hx hb dX5_addBond_114 rfl (lv_at hl 1 rfl) ?_
                      refine lv_icmp_le (tgt := 124) hx hb dX5_addBond_115 (by decide) (fun c25 => ?_) (fun c25 => ?_)
                      · have hf := it hf c25
                        exact JK20 x19 ls (lv_sub hl [0, 1, 2, 3, 4, 5, 6] rfl) hf
                      · have hf := ie hf c25
                        obtain ⟨x26, ex26⟩ : ∃ y : Int32, y = x19 + 1 := ⟨_, rfl⟩
                        have hf := bd_s hf ex26
                        refine lv_iinc (v := x26) (lv' := [(6, .int x26), (0, .ref hm), (1, .int a0), (2, .int a1), (3, .int a2), (4, .int a3), (5, .int a4)]) hx hb dX5_addBond_118 hl (k := 6) rfl (by rw [ex26]; rfl) (by decide) rfl (fun ls hl => ?_)
                        refine lv_goto (tgt := 102) hx hb dX5_addBond_121 (by decide) ?_
                        exact ih22 x26 ls (lv_sub hl [1, 2, 3, 4, 5, 6, 0] rfl) hf
                  exact LP102 N 0 ls (lv_sub hl [1, 2, 3, 4, 5, 6, 0] rfl) hf
                · have hf := it hf c18
                  refine lv_aload_n hx hb dX5_addBond_93 rfl (lv_at hl 0 rfl) ?_
                  refine lv_iconst (v := 1) hx hb dX5_addBond_94 (by decide) ?_
                  obtain ⟨v94, hv94, hf⟩ := ob hf
                  have hPc := hP.sub (ws' := [eM hm mh mo my mp (va_up M 0 (0 : Int32)) mc, eH cI mh mhol, eO cI mo mof, eY cI my mdy, eP cJ mp mpd]) [0, 1, 2, 3, 4] rfl
                  have hDc := hD.sub (ws' := [eM hm mh mo my mp (va_up M 0 (0 : Int32)) mc, eH cI mh mhol, eO cI mo mof, eY cI my mdy, eP cJ mp mpd]) [0, 1, 2, 3, 4] (by decide) rfl
                  have hFc := va_free (wc := [eM hm mh mo my mp (va_up M 0 (0 : Int32)) mc, eH cI mh mhol, eO cI mo mof, eY cI my mdy, eP cJ mp mpd]) hD hS hA [0, 1, 2, 3, 4] rfl
                  refine va_calli (va_runV (As := [.int 1]) (rest := []) ⟨hx, hb, hml, hown, hts⟩ (m_X5_no l D cI cJ cO hm mh mo my mp (va_up M 0 (0 : Int32)) mc mhol mof mdy mpd H.size 1 v94 hv94) (cwV 1 hts gX5_addBond_X5_no rfl rfl rfl (by decide +kernel) ⟨(Nat.le_of_ble_eq_true rfl), (Nat.le_of_ble_eq_true rfl)⟩) ⟨mp_blind, va_recv hK hP (ci := 4) (q0 := 0) rfl rfl, fun U hU hW => ⟨rfl, mp_at hZ hS hPc hK hDc hFc hU hW (Or.inr rfl)⟩⟩ rfl rfl hl.1 rfl (lv_room (Nat.le_of_ble_eq_true rfl)) dX5_addBond_95 ⟨(Nat.le_of_ble_eq_true rfl), (Nat.le_of_ble_eq_true rfl)⟩) hS (fun q _ h => hFc q h) hFc (fun rv94 u t H1 locs ht9 hvm hw hBx hz1 hk1 hS => ?_)
                  subst hw
                  obtain ⟨hP1, hD1⟩ := hBx
                  rw [ht9] at hP1
                  obtain ⟨hP, hD⟩ := va_join (wr := []) (w1 := [eM hm mh mo my mp v94.2 mc, eH cI mh mhol, eO cI mo mof, eY cI my mdy, eP cJ mp mpd]) hP hD [0, 1, 2, 3, 4] [] rfl rfl (by decide) (by decide) hk1 hFc hP1 hD1
                  have hP := hP.sub (ws' := [eM hm mh mo my mp v94.2 mc, eH cI mh mhol, eO cI mo mof, eY cI my mdy, eP cJ mp mpd]) [0, 1, 2, 3, 4] rfl
                  have hD := hD.sub (ws' := [eM hm mh mo my mp v94.2 mc, eH cI mh mhol, eO cI mo mof, eY cI my mdy, eP cJ mp mpd]) [0, 1, 2, 3, 4] (by decide) rfl
                  generalize H1 = H at hP hS ⊢
                  refine W.widen (k := 1) (n := 14) (Nat.le_of_ble_eq_true rfl) (Nat.le_of_ble_eq_true rfl) ?_
                  have e9 := Option.some.inj hf
                  subst e9
                  exact W.iret hx hb hr (fun t ht hW => ⟨⟨_, (), rfl, rfl, by rw [ht]; exact hP, hD⟩, hS.F ht⟩) hS.2.2 dX5_addBond_98
              refine lv_icmp_eq (tgt := 83) hx hb dX5_addBond_61 (by decide) (fun c95 => ?_) (fun c95 => ?_)
              · have hf := it hf c95
                exact JK16  ls (lv_sub hl [0, 1, 2, 3, 4, 5] rfl) hf
              · have hf := ie hf c95
                refine lv_iload hx hb dX5_addBond_64 (lv_at hl 4 rfl) ?_
                refine lv_iconst (v := 2) hx hb dX5_addBond_66 (by decide) ?_
                refine lv_icmp_eq (tgt := 83) hx hb dX5_addBond_67 (by decide) (fun c96 => ?_) (fun c96 => ?_)
                · have hf := it hf c96
                  exact JK16  ls (lv_sub hl [0, 1, 2, 3, 4, 5] rfl) hf
                · have hf := ie hf c96
                  refine lv_iload hx hb dX5_addBond_70 (lv_at hl 4 rfl) ?_
                  refine lv_iconst (v := 4) hx hb dX5_addBond_72 (by decide) ?_
                  refine lv_icmp_eq (tgt := 83) hx hb dX5_addBond_73 (by decide) (fun c97 => ?_) (fun c97 => ?_)
                  · have hf := it hf c97
                    exact JK16  ls (lv_sub hl [0, 1, 2, 3, 4, 5] rfl) hf
                  · have hf := ie hf c97
                    refine lv_iload hx hb dX5_addBond_76 (lv_at hl 4 rfl) ?_
                    refine lv_bipush (v := 12) hx hb dX5_addBond_78 (by decide) ?_
                    refine lv_icmp_ne (tgt := 93) hx hb dX5_addBond_80 (by decide) (fun c98 => ?_) (fun c98 => ?_)
                    · have hf := ie hf c98
                      refine lv_aload_n hx hb dX5_addBond_93 rfl (lv_at hl 0 rfl) ?_
                      refine lv_iconst (v := 1) hx hb dX5_addBond_94 (by decide) ?_
                      obtain ⟨v99, hv99, hf⟩ := ob hf
                      have hPc := hP.sub (ws' := [eM hm mh mo my mp (va_up M 0 (0 : Int32)) mc, eH cI mh mhol, eO cI mo mof, eY cI my mdy, eP cJ mp mpd]) [0, 1, 2, 3, 4] rfl
                      have hDc := hD.sub (ws' := [eM hm mh mo my mp (va_up M 0 (0 : Int32)) mc, eH cI mh mhol, eO cI mo mof, eY cI my mdy, eP cJ mp mpd]) [0, 1, 2, 3, 4] (by decide) rfl
                      have hFc := va_free (wc := [eM hm mh mo my mp (va_up M 0 (0 : Int32)) mc, eH cI mh mhol, eO cI mo mof, eY cI my mdy, eP cJ mp mpd]) hD hS hA [0, 1, 2, 3, 4] rfl
                      refine va_calli (va_runV (As := [.int 1]) (rest := []) ⟨hx, hb, hml, hown, hts⟩ (m_X5_no l D cI cJ cO hm mh mo my mp (va_up M 0 (0 : Int32)) mc mhol mof mdy mpd H.size 1 v99 hv99) (cwV 1 hts gX5_addBond_X5_no rfl rfl rfl (by decide +kernel) ⟨(Nat.le_of_ble_eq_true rfl), (Nat.le_of_ble_eq_true rfl)⟩) ⟨mp_blind, va_recv hK hP (ci := 4) (q0 := 0) rfl rfl, fun U hU hW => ⟨rfl, mp_at hZ hS hPc hK hDc hFc hU hW (Or.inr rfl)⟩⟩ rfl rfl hl.1 rfl (lv_room (Nat.le_of_ble_eq_true rfl)) dX5_addBond_95 ⟨(Nat.le_of_ble_eq_true rfl), (Nat.le_of_ble_eq_true rfl)⟩) hS (fun q _ h => hFc q h) hFc (fun rv99 u t H1 locs ht9 hvm hw hBx hz1 hk1 hS => ?_)
                      subst hw
                      obtain ⟨hP1, hD1⟩ := hBx
                      rw [ht9] at hP1
                      obtain ⟨hP, hD⟩ := va_join (wr := []) (w1 := [eM hm mh mo my mp v99.2 mc, eH cI mh mhol, eO cI mo mof, eY cI my mdy, eP cJ mp mpd]) hP hD [0, 1, 2, 3, 4] [] rfl rfl (by decide) (by decide) hk1 hFc hP1 hD1
                      have hP := hP.sub (ws' := [eM hm mh mo my mp v99.2 mc, eH cI mh mhol, eO cI mo mof, eY cI my mdy, eP cJ mp mpd]) [0, 1, 2, 3, 4] rfl
                      have hD := hD.sub (ws' := [eM hm mh mo my mp v99.2 mc, eH cI mh mhol, eO cI mo mof, eY cI my mdy, eP cJ mp mpd]) [0, 1, 2, 3, 4] (by decide) rfl
                      generalize H1 = H at hP hS ⊢
                      refine W.widen (k := 1) (n := 14) (Nat.le_of_ble_eq_true rfl) (Nat.le_of_ble_eq_true rfl) ?_
                      have e9 := Option.some.inj hf
                      subst e9
                      exact W.iret hx hb hr (fun t ht hW => ⟨⟨_, (), rfl, rfl, by rw [ht]; exact hP, hD⟩, hS.F ht⟩) hS.2.2 dX5_addBond_98
                    · have hf := it hf c98
                      exact JK16  ls (lv_sub hl [0, 1, 2, 3, 4, 5] rfl) hf
          · have hf := ie hf c12
            refine lv_aload_n hx hb dX5_addBond_41 rfl (lv_at hl 0 rfl) ?_
            refine lv_iconst (v := 1) hx hb dX5_addBond_42 (by decide) ?_
            obtain ⟨v100, hv100, hf⟩ := ob hf
            have hPc := hP.sub (ws' := [eM hm mh mo my mp (va_up M 0 (0 : Int32)) mc, eH cI mh mhol, eO cI mo mof, eY cI my mdy, eP cJ mp mpd]) [0, 1, 2, 3, 4] rfl
            have hDc := hD.sub (ws' := [eM hm mh mo my mp (va_up M 0 (0 : Int32)) mc, eH cI mh mhol, eO cI mo mof, eY cI my mdy, eP cJ mp mpd]) [0, 1, 2, 3, 4] (by decide) rfl
            have hFc := va_free (wc := [eM hm mh mo my mp (va_up M 0 (0 : Int32)) mc, eH cI mh mhol, eO cI mo mof, eY cI my mdy, eP cJ mp mpd]) hD hS hA [0, 1, 2, 3, 4] rfl
            refine va_calli (va_runV (As := [.int 1]) (rest := []) ⟨hx, hb, hml, hown, hts⟩ (m_X5_no l D cI cJ cO hm mh mo my mp (va_up M 0 (0 : Int32)) mc mhol mof mdy mpd H.size 1 v100 hv100) (cwV 1 hts gX5_addBond_X5_no rfl rfl rfl (by decide +kernel) ⟨(Nat.le_of_ble_eq_true rfl), (Nat.le_of_ble_eq_true rfl)⟩) ⟨mp_blind, va_recv hK hP (ci := 4) (q0 := 0) rfl rfl, fun U hU hW => ⟨rfl, mp_at hZ hS hPc hK hDc hFc hU hW (Or.inr rfl)⟩⟩ rfl rfl hl.1 rfl (lv_room (Nat.le_of_ble_eq_true rfl)) dX5_addBond_43 ⟨(Nat.le_of_ble_eq_true rfl), (Nat.le_of_ble_eq_true rfl)⟩) hS (fun q _ h => hFc q h) hFc (fun rv100 u t H1 locs ht9 hvm hw hBx hz1 hk1 hS => ?_)
            subst hw
            obtain ⟨hP1, hD1⟩ := hBx
            rw [ht9] at hP1
            obtain ⟨hP, hD⟩ := va_join (wr := []) (w1 := [eM hm mh mo my mp v100.2 mc, eH cI mh mhol, eO cI mo mof, eY cI my mdy, eP cJ mp mpd]) hP hD [0, 1, 2, 3, 4] [] rfl rfl (by decide) (by decide) hk1 hFc hP1 hD1
            have hP := hP.sub (ws' := [eM hm mh mo my mp v100.2 mc, eH cI mh mhol, eO cI mo mof, eY cI my mdy, eP cJ mp mpd]) [0, 1, 2, 3, 4] rfl
            have hD := hD.sub (ws' := [eM hm mh mo my mp v100.2 mc, eH cI mh mhol, eO cI mo mof, eY cI my mdy, eP cJ mp mpd]) [0, 1, 2, 3, 4] (by decide) rfl
            generalize H1 = H at hP hS ⊢
            refine W.widen (k := 1) (n := 14) (Nat.le_of_ble_eq_true rfl) (Nat.le_of_ble_eq_true rfl) ?_
            have e9 := Option.some.inj hf
            subst e9
            exact W.iret hx hb hr (fun t ht hW => ⟨⟨_, (), rfl, rfl, by rw [ht]; exact hP, hD⟩, hS.F ht⟩) hS.2.2 dX5_addBond_46
