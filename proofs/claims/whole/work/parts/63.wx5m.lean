theorem inX5_thrown_X5 : ∀ w ∈ wsX50, w ∈ wsX5_thrown := by decide +kernel
set_option maxHeartbeats 4000000 in
set_option maxRecDepth 100000 in
theorem m_X5_thrown (l : Launch) (D : va_G) (cI cJ cO : ClassId) (hm : Nat) (mh : Nat) (mo : Nat) (my : Nat) (mp : Nat) (M : Nat → Int32) (mc : Int64) (mhol : Nat → Int32) (mof : Nat → Int32) (mdy : Nat → Int32) (mpd : Nat → Int64) (r : Int32) (hf : f_X5_thrown M = some r) : Met l yX5_thrown wsX5_thrown ({ frames := 0, cells := 0, slots := 0, locals := 0 }) (va_Pc [.ref hm] (pw D (ty3 cI cJ cO) none [eM hm mh mo my mp M mc, eH cI mh mhol, eO cI mo mof, eY cI my mdy, eP cJ mp mpd])) (QSi r) 0 0 (fun _ => False) := by
  refine Met.ofW (cc := cX5_thrown) (maxL := 1) (ret := (some .int)) (by decide) rfl ?_
  intro p e s m args below meth c s₁ Bd hml hv
  obtain ⟨rfl, hZ, hP, hK⟩ := hv
  have hx := Bd.exec
  have hb := Bd.bytes
  have hr := Bd.returns
  have hts := atoms_spec (ws := wsX5_thrown) Bd.pre
  have hown : s.vm.findClass RX5 = some m.cls := findClass_of_methodNamed Bd.named
  have hlocks := Bd.notSynchronized
  have hl := lv_entry ([.ref hm]) (n := 1) (Nat.le_of_ble_eq_true rfl)
  rw [lg_entry_eq]
  generalize (lg_sl ([.ref hm]) ++ List.replicate (1 - (lg_sl ([.ref hm])).length) Slot.unset).toArray = ls at hl ⊢
  have hl : lv_has ls 1 [(0, .ref hm)] := hl
  unfold f_X5_thrown at hf
  refine lv_aload_n hx hb dX5_thrown_0 rfl (lv_at hl 0 rfl) ?_
  refine va_get (D := D) (ci := 4) (v := .int (M 0)) (C := RX5) (T := TX5) (N := 10) hx hb hts inX5_thrown_X5 hown hK hP 0 rfl rfl 0 (by decide) (hts (.fieldLink RX5 41 "BondDeskModel" "thrown" "I") (by decide +kernel)) (fun _ h9 => h9) rfl dX5_thrown_1 ?_
  exact W.iret hx hb hr (fun t ht _ => ⟨_, rfl, Option.some.inj hf, ht⟩) (fun q hq => absurd hq List.not_mem_nil) dX5_thrown_4
theorem inX5_no_X5 : ∀ w ∈ wsX50, w ∈ wsX5_no := by decide +kernel
set_option maxHeartbeats 4000000 in
set_option maxRecDepth 100000 in
theorem m_X5_no (l : Launch) (D : va_G) (cI cJ cO : ClassId) (hm : Nat) (mh : Nat) (mo : Nat) (my : Nat) (mp : Nat) (M : Nat → Int32) (mc : Int64) (mhol : Nat → Int32) (mof : Nat → Int32) (mdy : Nat → Int32) (mpd : Nat → Int64) (sz : Nat) (a0 : Int32) (r : Int32 × (Nat → Int32)) (hf : f_X5_no M a0 = some r) : Met l yX5_no wsX5_no ({ frames := 0, cells := 0, slots := 0, locals := 0 }) (va_Pc [.ref hm, .int a0] (mP D (ty3 cI cJ cO) none [eM hm mh mo my mp M mc, eH cI mh mhol, eO cI mo mof, eY cI my mdy, eP cJ mp mpd] sz)) (mQi D (va_A [eM hm mh mo my mp M mc, eH cI mh mhol, eO cI mo mof, eY cI my mdy, eP cJ mp mpd] sz) r.1 [eM hm mh mo my mp r.2 mc, eH cI mh mhol, eO cI mo mof, eY cI my mdy, eP cJ mp mpd]) 0 0 (va_A [eM hm mh mo my mp M mc, eH cI mh mhol, eO cI mo mof, eY cI my mdy, eP cJ mp mpd] sz) := by
  refine Met.ofW (cc := cX5_no) (maxL := 2) (ret := (some .int)) (by decide) rfl ?_
  intro p e s m args below meth c s₁ Bd hml hv
  obtain ⟨rfl, hsz, hZ, hP, hK, hD0⟩ := hv
  have hx := Bd.exec
  have hb := Bd.bytes
  have hr := Bd.returns
  have hts := atoms_spec (ws := wsX5_no) Bd.pre
  have hown : s.vm.findClass RX5 = some m.cls := findClass_of_methodNamed Bd.named
  have hlocks := Bd.notSynchronized
  subst hsz
  have hD := hD0.self (sz := s.heap.size)
  generalize hAe : va_A [eM hm mh mo my mp M mc, eH cI mh mhol, eO cI mo mof, eY cI my mdy, eP cJ mp mpd] s.heap.size = A at hD hZ ⊢
  have hA : ∀ q : Nat, s.heap.size ≤ q → A q := fun q h => by rw [← hAe]; exact Or.inr h
  have hS : va_S A s.heap s.heap [] := va_S.rf
  have hl := lv_entry ([.ref hm, .int a0]) (n := 2) (Nat.le_of_ble_eq_true rfl)
  rw [lg_entry_eq]
  generalize (lg_sl ([.ref hm, .int a0]) ++ List.replicate (2 - (lg_sl ([.ref hm, .int a0])).length) Slot.unset).toArray = ls at hl ⊢
  have hl : lv_has ls 2 [(0, .ref hm), (1, .int a0)] := hl
  unfold f_X5_no at hf
  refine lv_aload_n hx hb dX5_no_0 rfl (lv_at hl 0 rfl) ?_
  refine lv_iload_n hx hb dX5_no_1 rfl (lv_at hl 1 rfl) ?_
  refine va_put (D := D) (ci := 4) (v := .int a0) (ty := .int) (C := RX5) (T := TX5) (N := 10) hx hb hts inX5_no_X5 tyX5 tyX5_ok nmX5 hown hK hP hD hS 0 rfl rfl 0 (by decide) (hts (.fieldLink RX5 41 "BondDeskModel" "thrown" "I") (by decide +kernel)) (fun _ h9 => h9) rfl (by decide +kernel) rfl rfl (Nat.le_of_ble_eq_true rfl) dX5_no_2 (fun H locs hP hD hS => ?_)
  have hP : va_P D vwCl [eM hm mh mo my mp (va_up M 0 a0) mc, eH cI mh mhol, eO cI mo mof, eY cI my mdy, eP cJ mp mpd] H := hP
  have hD : va_D A [eM hm mh mo my mp (va_up M 0 a0) mc, eH cI mh mhol, eO cI mo mof, eY cI my mdy, eP cJ mp mpd] := hD
  refine lv_iconst (v := 0) hx hb dX5_no_5 (by decide) ?_
  refine W.widen (k := 0) (n := 0) (Nat.le_of_ble_eq_true rfl) (Nat.le_of_ble_eq_true rfl) ?_
  have e9 := Option.some.inj hf
  subst e9
  exact W.iret hx hb hr (fun t ht hW => ⟨⟨_, (), rfl, rfl, by rw [ht]; exact hP, hD⟩, hS.F ht⟩) hS.2.2 dX5_no_6
theorem inX5_later_X5 : ∀ w ∈ wsX50, w ∈ wsX5_later := by decide +kernel
set_option maxHeartbeats 4000000 in
set_option maxRecDepth 100000 in
theorem m_X5_later (l : Launch) (D : va_G) (cI cJ cO : ClassId) (hm : Nat) (mh : Nat) (mo : Nat) (my : Nat) (mp : Nat) (M : Nat → Int32) (mc : Int64) (mhol : Nat → Int32) (mof : Nat → Int32) (mdy : Nat → Int32) (mpd : Nat → Int64) (sz : Nat) (a0 : Int32) (a1 : Int32) (N : Nat) (r : Int32 × (Nat → Int32)) (hf : f_X5_later N M a0 a1 = some r) : Met l yX5_later wsX5_later ({ frames := 2, cells := 0, slots := 0, locals := 44 }) (va_Pc [.ref hm, .int a0, .int a1] (mP D (ty3 cI cJ cO) none [eM hm mh mo my mp M mc, eH cI mh mhol, eO cI mo mof, eY cI my mdy, eP cJ mp mpd] sz)) (mQi D (va_A [eM hm mh mo my mp M mc, eH cI mh mhol, eO cI mo mof, eY cI my mdy, eP cJ mp mpd] sz) r.1 [eM hm mh mo my mp r.2 mc, eH cI mh mhol, eO cI mo mof, eY cI my mdy, eP cJ mp mpd]) 0 0 (va_A [eM hm mh mo my mp M mc, eH cI mh mhol, eO cI mo mof, eY cI my mdy, eP cJ mp mpd] sz) := by
  refine Met.ofW (cc := cX5_later) (maxL := 4) (ret := (some .int)) (by decide) rfl ?_
  intro p e s m args below meth c s₁ Bd hml hv
  obtain ⟨rfl, hsz, hZ, hP, hK, hD0⟩ := hv
  have hx := Bd.exec
  have hb := Bd.bytes
  have hr := Bd.returns
  have hts := atoms_spec (ws := wsX5_later) Bd.pre
  have hown : s.vm.findClass RX5 = some m.cls := findClass_of_methodNamed Bd.named
  have hlocks := Bd.notSynchronized
  subst hsz
  have hD := hD0.self (sz := s.heap.size)
  generalize hAe : va_A [eM hm mh mo my mp M mc, eH cI mh mhol, eO cI mo mof, eY cI my mdy, eP cJ mp mpd] s.heap.size = A at hD hZ ⊢
  have hA : ∀ q : Nat, s.heap.size ≤ q → A q := fun q h => by rw [← hAe]; exact Or.inr h
  have hS : va_S A s.heap s.heap [] := va_S.rf
  have hl := lv_entry ([.ref hm, .int a0, .int a1]) (n := 4) (Nat.le_of_ble_eq_true rfl)
  rw [lg_entry_eq]
  generalize (lg_sl ([.ref hm, .int a0, .int a1]) ++ List.replicate (4 - (lg_sl ([.ref hm, .int a0, .int a1])).length) Slot.unset).toArray = ls at hl ⊢
  have hl : lv_has ls 4 [(0, .ref hm), (1, .int a0), (2, .int a1)] := hl
  unfold f_X5_later at hf
  refine lv_aload_n hx hb dX5_later_0 rfl (lv_at hl 0 rfl) ?_
  refine lv_iconst (v := 0) hx hb dX5_later_1 (by decide) ?_
  refine va_put (D := D) (ci := 4) (v := .int 0) (ty := .int) (C := RX5) (T := TX5) (N := 10) hx hb hts inX5_later_X5 tyX5 tyX5_ok nmX5 hown hK hP hD hS 0 rfl rfl 0 (by decide) (hts (.fieldLink RX5 41 "BondDeskModel" "thrown" "I") (by decide +kernel)) (fun _ h9 => h9) rfl (by decide +kernel) rfl rfl (Nat.le_of_ble_eq_true rfl) dX5_later_2 (fun H locs hP hD hS => ?_)
  have hP : va_P D vwCl [eM hm mh mo my mp (va_up M 0 (0 : Int32)) mc, eH cI mh mhol, eO cI mo mof, eY cI my mdy, eP cJ mp mpd] H := hP
  have hD : va_D A [eM hm mh mo my mp (va_up M 0 (0 : Int32)) mc, eH cI mh mhol, eO cI mo mof, eY cI my mdy, eP cJ mp mpd] := hD
  refine lv_iload_n hx hb dX5_later_5 rfl (lv_at hl 1 rfl) ?_
  obtain ⟨v1, hv1, hf⟩ := ob hf
  refine cSz (W.runS (As := [.int a0]) (rest := []) ⟨hx, hb, hml, hown, hts⟩ (m_X5_isDate l D cI cJ cO a0 v1 hv1) (va_cwS 1 hts gX5_later_X5_isDate rfl rfl rfl (by decide +kernel) ⟨(Nat.le_of_ble_eq_true rfl), (Nat.le_of_ble_eq_true rfl)⟩) ⟨pw_blind, fun U hU hW => ⟨rfl, pw_at hZ hS hP hK hU hW (Or.inr rfl) [] rfl⟩⟩ rfl rfl hl.1 rfl (lv_room (Nat.le_of_ble_eq_true rfl)) dX5_later_6 ⟨(Nat.le_of_ble_eq_true rfl), (Nat.le_of_ble_eq_true rfl)⟩) (fun zv1 => ?_)
  refine lv_if_eq (tgt := 25) hx hb dX5_later_9 (by decide) (fun c2 => ?_) (fun c2 => ?_)
  · have hf := it hf c2
    refine lv_aload_n hx hb dX5_later_25 rfl (lv_at hl 0 rfl) ?_
    refine lv_iconst (v := 1) hx hb dX5_later_26 (by decide) ?_
    obtain ⟨v3, hv3, hf⟩ := ob hf
    have hPc := hP.sub (ws' := [eM hm mh mo my mp (va_up M 0 (0 : Int32)) mc, eH cI mh mhol, eO cI mo mof, eY cI my mdy, eP cJ mp mpd]) [0, 1, 2, 3, 4] rfl
    have hDc := hD.sub (ws' := [eM hm mh mo my mp (va_up M 0 (0 : Int32)) mc, eH cI mh mhol, eO cI mo mof, eY cI my mdy, eP cJ mp mpd]) [0, 1, 2, 3, 4] (by decide) rfl
    have hFc := va_free (wc := [eM hm mh mo my mp (va_up M 0 (0 : Int32)) mc, eH cI mh mhol, eO cI mo mof, eY cI my mdy, eP cJ mp mpd]) hD hS hA [0, 1, 2, 3, 4] rfl
    refine va_calli (va_runV (As := [.int 1]) (rest := []) ⟨hx, hb, hml, hown, hts⟩ (m_X5_no l D cI cJ cO hm mh mo my mp (va_up M 0 (0 : Int32)) mc mhol mof mdy mpd H.size 1 v3 hv3) (cwV 1 hts gX5_later_X5_no rfl rfl rfl (by decide +kernel) ⟨(Nat.le_of_ble_eq_true rfl), (Nat.le_of_ble_eq_true rfl)⟩) ⟨mp_blind, va_recv hK hP (ci := 4) (q0 := 0) rfl rfl, fun U hU hW => ⟨rfl, mp_at hZ hS hPc hK hDc hFc hU hW (Or.inr rfl)⟩⟩ rfl rfl hl.1 rfl (lv_room (Nat.le_of_ble_eq_true rfl)) dX5_later_27 ⟨(Nat.le_of_ble_eq_true rfl), (Nat.le_of_ble_eq_true rfl)⟩) hS (fun q _ h => hFc q h) hFc (fun rv3 u t H1 locs ht9 hvm hw hBx hz1 hk1 hS => ?_)
    subst hw
    obtain ⟨hP1, hD1⟩ := hBx
    rw [ht9] at hP1
    obtain ⟨hP, hD⟩ := va_join (wr := []) (w1 := [eM hm mh mo my mp v3.2 mc, eH cI mh mhol, eO cI mo mof, eY cI my mdy, eP cJ mp mpd]) hP hD [0, 1, 2, 3, 4] [] rfl rfl (by decide) (by decide) hk1 hFc hP1 hD1
    have hP := hP.sub (ws' := [eM hm mh mo my mp v3.2 mc, eH cI mh mhol, eO cI mo mof, eY cI my mdy, eP cJ mp mpd]) [0, 1, 2, 3, 4] rfl
    have hD := hD.sub (ws' := [eM hm mh mo my mp v3.2 mc, eH cI mh mhol, eO cI mo mof, eY cI my mdy, eP cJ mp mpd]) [0, 1, 2, 3, 4] (by decide) rfl
    generalize H1 = H at hP hS ⊢
    refine W.widen (k := 0) (n := 0) (Nat.le_of_ble_eq_true rfl) (Nat.le_of_ble_eq_true rfl) ?_
    have e9 := Option.some.inj hf
    subst e9
    exact W.iret hx hb hr (fun t ht hW => ⟨⟨_, (), rfl, rfl, by rw [ht]; exact hP, hD⟩, hS.F ht⟩) hS.2.2 dX5_later_30
  · have hf := ie hf c2
    refine lv_iload_n hx hb dX5_later_12 rfl (lv_at hl 2 rfl) ?_
    refine lv_sipush (v := (-1000)) hx hb dX5_later_13 (by decide) ?_
    refine lv_sipush (v := 1000) hx hb dX5_later_16 (by decide) ?_
    obtain ⟨v4, hv4, hf⟩ := ob hf
    refine cSz (W.runS (As := [.int a1, .int (-1000), .int 1000]) (rest := []) ⟨hx, hb, hml, hown, hts⟩ (m_X5_isIn l D cI cJ cO a1 (-1000) 1000 v4 hv4) (va_cwS 3 hts gX5_later_X5_isIn rfl rfl rfl (by decide +kernel) ⟨(Nat.le_of_ble_eq_true rfl), (Nat.le_of_ble_eq_true rfl)⟩) ⟨pw_blind, fun U hU hW => ⟨rfl, pw_at hZ hS hP hK hU hW (Or.inr rfl) [] rfl⟩⟩ rfl rfl hl.1 rfl (lv_room (Nat.le_of_ble_eq_true rfl)) dX5_later_19 ⟨(Nat.le_of_ble_eq_true rfl), (Nat.le_of_ble_eq_true rfl)⟩) (fun zv4 => ?_)
    refine lv_if_ne (tgt := 31) hx hb dX5_later_22 (by decide) (fun c5 => ?_) (fun c5 => ?_)
    · have hf := ie hf c5
      refine lv_iload_n hx hb dX5_later_31 rfl (lv_at hl 1 rfl) ?_
      obtain ⟨v6, hv6, hf⟩ := ob hf
      refine cSi (W.runS (As := [.int a0]) (rest := []) ⟨hx, hb, hml, hown, hts⟩ (m_X5_number l D cI cJ cO a0 N v6 hv6) (va_cwS 1 hts gX5_later_X5_number rfl rfl rfl (by decide +kernel) ⟨(Nat.le_of_ble_eq_true rfl), (Nat.le_of_ble_eq_true rfl)⟩) ⟨pw_blind, fun U hU hW => ⟨rfl, pw_at hZ hS hP hK hU hW (Or.inr rfl) [] rfl⟩⟩ rfl rfl hl.1 rfl (lv_room (Nat.le_of_ble_eq_true rfl)) dX5_later_32 ⟨(Nat.le_of_ble_eq_true rfl), (Nat.le_of_ble_eq_true rfl)⟩) ?_
      refine lv_iload_n hx hb dX5_later_35 rfl (lv_at hl 2 rfl) ?_
      refine lv_iadd hx hb dX5_later_36 ?_
      refine lv_topi (fun x7 ex7 => ?_)
      have hf := bd_s hf ex7
      refine lv_istore_n (lv' := [(3, .int x7), (0, .ref hm), (1, .int a0), (2, .int a1)]) hx hb dX5_later_37 rfl hl (by decide) rfl (fun ls hl => ?_)
      refine lv_iload_n hx hb dX5_later_38 rfl (lv_at hl 0 rfl) ?_
      refine lv_iconst (v := 0) hx hb dX5_later_39 (by decide) ?_
      refine lv_ldc hx hb hown (hts (.constant RX5 45 (20661231)) (by decide +kernel)) dX5_later_40 ?_
      obtain ⟨v8, hv8, hf⟩ := ob hf
      refine cSi (W.runS (As := [.int 20661231]) (rest := [.int 0, .int x7]) ⟨hx, hb, hml, hown, hts⟩ (m_X5_number l D cI cJ cO 20661231 N v8 hv8) (va_cwS 1 hts gX5_later_X5_number rfl rfl rfl (by decide +kernel) ⟨(Nat.le_of_ble_eq_true rfl), (Nat.le_of_ble_eq_true rfl)⟩) ⟨pw_blind, fun U hU hW => ⟨rfl, pw_at hZ hS hP hK hU hW (Or.inr rfl) [] rfl⟩⟩ rfl rfl hl.1 rfl (lv_room (Nat.le_of_ble_eq_true rfl)) dX5_later_42 ⟨(Nat.le_of_ble_eq_true rfl), (Nat.le_of_ble_eq_true rfl)⟩) ?_
      obtain ⟨v9, hv9, hf⟩ := ob hf
      refine cSz (W.runS (As := [.int x7, .int 0, .int v8]) (rest := []) ⟨hx, hb, hml, hown, hts⟩ (m_X5_isIn l D cI cJ cO x7 0 v8 v9 hv9) (va_cwS 3 hts gX5_later_X5_isIn rfl rfl rfl (by decide +kernel) ⟨(Nat.le_of_ble_eq_true rfl), (Nat.le_of_ble_eq_true rfl)⟩) ⟨pw_blind, fun U hU hW => ⟨rfl, pw_at hZ hS hP hK hU hW (Or.inr rfl) [] rfl⟩⟩ rfl rfl hl.1 rfl (lv_room (Nat.le_of_ble_eq_true rfl)) dX5_later_45 ⟨(Nat.le_of_ble_eq_true rfl), (Nat.le_of_ble_eq_true rfl)⟩) (fun zv9 => ?_)
      refine lv_if_eq (tgt := 58) hx hb dX5_later_48 (by decide) (fun c10 => ?_) (fun c10 => ?_)
      · have hf := it hf c10
        refine lv_aload_n hx hb dX5_later_58 rfl (lv_at hl 1 rfl) ?_
        refine lv_iconst (v := 1) hx hb dX5_later_59 (by decide) ?_
        obtain ⟨v11, hv11, hf⟩ := ob hf
        have hPc := hP.sub (ws' := [eM hm mh mo my mp (va_up M 0 (0 : Int32)) mc, eH cI mh mhol, eO cI mo mof, eY cI my mdy, eP cJ mp mpd]) [0, 1, 2, 3, 4] rfl
        have hDc := hD.sub (ws' := [eM hm mh mo my mp (va_up M 0 (0 : Int32)) mc, eH cI mh mhol, eO cI mo mof, eY cI my mdy, eP cJ mp mpd]) [0, 1, 2, 3, 4] (by decide) rfl
        have hFc := va_free (wc := [eM hm mh mo my mp (va_up M 0 (0 : Int32)) mc, eH cI mh mhol, eO cI mo mof, eY cI my mdy, eP cJ mp mpd]) hD hS hA [0, 1, 2, 3, 4] rfl
        refine va_calli (va_runV (As := [.int 1]) (rest := []) ⟨hx, hb, hml, hown, hts⟩ (m_X5_no l D cI cJ cO hm mh mo my mp (va_up M 0 (0 : Int32)) mc mhol mof mdy mpd H.size 1 v11 hv11) (cwV 1 hts gX5_later_X5_no rfl rfl rfl (by decide +kernel) ⟨(Nat.le_of_ble_eq_true rfl), (Nat.le_of_ble_eq_true rfl)⟩) ⟨mp_blind, va_recv hK hP (ci := 4) (q0 := 0) rfl rfl, fun U hU hW => ⟨rfl, mp_at hZ hS hPc hK hDc hFc hU hW (Or.inr rfl)⟩⟩ rfl rfl hl.1 rfl (lv_room (Nat.le_of_ble_eq_true rfl)) dX5_later_60 ⟨(Nat.le_of_ble_eq_true rfl), (Nat.le_of_ble_eq_true rfl)⟩) hS (fun q _ h => hFc q h) hFc (fun rv11 u t H1 locs ht9 hvm hw hBx hz1 hk1 hS => ?_)
        subst hw
        obtain ⟨hP1, hD1⟩ := hBx
        rw [ht9] at hP1
        obtain ⟨hP, hD⟩ := va_join (wr := []) (w1 := [eM hm mh mo my mp v11.2 mc, eH cI mh mhol, eO cI mo mof, eY cI my mdy, eP cJ mp mpd]) hP hD [0, 1, 2, 3, 4] [] rfl rfl (by decide) (by decide) hk1 hFc hP1 hD1
        have hP := hP.sub (ws' := [eM hm mh mo my mp v11.2 mc, eH cI mh mhol, eO cI mo mof, eY cI my mdy, eP cJ mp mpd]) [0, 1, 2, 3, 4] rfl
        have hD := hD.sub (ws' := [eM hm mh mo my mp v11.2 mc, eH cI mh mhol, eO cI mo mof, eY cI my mdy, eP cJ mp mpd]) [0, 1, 2, 3, 4] (by decide) rfl
        generalize H1 = H at hP hS ⊢
        refine W.widen (k := 0) (n := 0) (Nat.le_of_ble_eq_true rfl) (Nat.le_of_ble_eq_true rfl) ?_
        have e9 := Option.some.inj hf
        subst e9
        exact W.iret hx hb hr (fun t ht hW => ⟨⟨_, (), rfl, rfl, by rw [ht]; exact hP, hD⟩, hS.F ht⟩) hS.2.2 dX5_later_63
      · have hf := ie hf c10
        refine lv_iload_n hx hb dX5_later_51 rfl (lv_at hl 0 rfl) ?_
        obtain ⟨v12, hv12, hf⟩ := ob hf
        refine cSi (W.runS (As := [.int x7]) (rest := []) ⟨hx, hb, hml, hown, hts⟩ (m_X5_date l D cI cJ cO x7 N v12 hv12) (va_cwS 1 hts gX5_later_X5_date rfl rfl rfl (by decide +kernel) ⟨(Nat.le_of_ble_eq_true rfl), (Nat.le_of_ble_eq_true rfl)⟩) ⟨pw_blind, fun U hU hW => ⟨rfl, pw_at hZ hS hP hK hU hW (Or.inr rfl) [] rfl⟩⟩ rfl rfl hl.1 rfl (lv_room (Nat.le_of_ble_eq_true rfl)) dX5_later_52 ⟨(Nat.le_of_ble_eq_true rfl), (Nat.le_of_ble_eq_true rfl)⟩) ?_
        refine lv_goto (tgt := 63) hx hb dX5_later_55 (by decide) ?_
        refine W.widen (k := 0) (n := 0) (Nat.le_of_ble_eq_true rfl) (Nat.le_of_ble_eq_true rfl) ?_
        have e9 := Option.some.inj hf
        subst e9
        exact W.iret hx hb hr (fun t ht hW => ⟨⟨_, (), rfl, rfl, by rw [ht]; exact hP, hD⟩, hS.F ht⟩) hS.2.2 dX5_later_63
    · have hf := it hf c5
      refine lv_aload_n hx hb dX5_later_25 rfl (lv_at hl 0 rfl) ?_
      refine lv_iconst (v := 1) hx hb dX5_later_26 (by decide) ?_
      obtain ⟨v13, hv13, hf⟩ := ob hf
      have hPc := hP.sub (ws' := [eM hm mh mo my mp (va_up M 0 (0 : Int32)) mc, eH cI mh mhol, eO cI mo mof, eY cI my mdy, eP cJ mp mpd]) [0, 1, 2, 3, 4] rfl
      have hDc := hD.sub (ws' := [eM hm mh mo my mp (va_up M 0 (0 : Int32)) mc, eH cI mh mhol, eO cI mo mof, eY cI my mdy, eP cJ mp mpd]) [0, 1, 2, 3, 4] (by decide) rfl
      have hFc := va_free (wc := [eM hm mh mo my mp (va_up M 0 (0 : Int32)) mc, eH cI mh mhol, eO cI mo mof, eY cI my mdy, eP cJ mp mpd]) hD hS hA [0, 1, 2, 3, 4] rfl
      refine va_calli (va_runV (As := [.int 1]) (rest := []) ⟨hx, hb, hml, hown, hts⟩ (m_X5_no l D cI cJ cO hm mh mo my mp (va_up M 0 (0 : Int32)) mc mhol mof mdy mpd H.size 1 v13 hv13) (cwV 1 hts gX5_later_X5_no rfl rfl rfl (by decide +kernel) ⟨(Nat.le_of_ble_eq_true rfl), (Nat.le_of_ble_eq_true rfl)⟩) ⟨mp_blind, va_recv hK hP (ci := 4) (q0 := 0) rfl rfl, fun U hU hW => ⟨rfl, mp_at hZ hS hPc hK hDc hFc hU hW (Or.inr rfl)⟩⟩ rfl rfl hl.1 rfl (lv_room (Nat.le_of_ble_eq_true rfl)) dX5_later_27 ⟨(Nat.le_of_ble_eq_true rfl), (Nat.le_of_ble_eq_true rfl)⟩) hS (fun q _ h => hFc q h) hFc (fun rv13 u t H1 locs ht9 hvm hw hBx hz1 hk1 hS => ?_)
      subst hw
      obtain ⟨hP1, hD1⟩ := hBx
      rw [ht9] at hP1
      obtain ⟨hP, hD⟩ := va_join (wr := []) (w1 := [eM hm mh mo my mp v13.2 mc, eH cI mh mhol, eO cI mo mof, eY cI my mdy, eP cJ mp mpd]) hP hD [0, 1, 2, 3, 4] [] rfl rfl (by decide) (by decide) hk1 hFc hP1 hD1
      have hP := hP.sub (ws' := [eM hm mh mo my mp v13.2 mc, eH cI mh mhol, eO cI mo mof, eY cI my mdy, eP cJ mp mpd]) [0, 1, 2, 3, 4] rfl
      have hD := hD.sub (ws' := [eM hm mh mo my mp v13.2 mc, eH cI mh mhol, eO cI mo mof, eY cI my mdy, eP cJ mp mpd]) [0, 1, 2, 3, 4] (by decide) rfl
      generalize H1 = H at hP hS ⊢
      refine W.widen (k := 0) (n := 0) (Nat.le_of_ble_eq_true rfl) (Nat.le_of_ble_eq_true rfl) ?_
      have e9 := Option.some.inj hf
      subst e9
      exact W.iret hx hb hr (fun t ht hW => ⟨⟨_, (), rfl, rfl, by rw [ht]; exact hP, hD⟩, hS.F ht⟩) hS.2.2 dX5_later_30
theorem inX5_weekday__X5 : ∀ w ∈ wsX50, w ∈ wsX5_weekday_ := by decide +kernel
set_option maxHeartbeats 4000000 in
set_option maxRecDepth 100000 in
theorem m_X5_weekday_ (l : Launch) (D : va_G) (cI cJ cO : ClassId) (hm : Nat) (mh : Nat) (mo : Nat) (my : Nat) (mp : Nat) (M : Nat → Int32) (mc : Int64) (mhol : Nat → Int32) (mof : Nat → Int32) (mdy : Nat → Int32) (mpd : Nat → Int64) (sz : Nat) (a0 : Int32) (N : Nat) (r : Int32 × (Nat → Int32)) (hf : f_X5_weekday_ N M a0 = some r) : Met l yX5_weekday_ wsX5_weekday_ ({ frames := 2, cells := 0, slots := 0, locals := 44 }) (va_Pc [.ref hm, .int a0] (mP D (ty3 cI cJ cO) none [eM hm mh mo my mp M mc, eH cI mh mhol, eO cI mo mof, eY cI my mdy, eP cJ mp mpd] sz)) (mQi D (va_A [eM hm mh mo my mp M mc, eH cI mh mhol, eO cI mo mof, eY cI my mdy, eP cJ mp mpd] sz) r.1 [eM hm mh mo my mp r.2 mc, eH cI mh mhol, eO cI mo mof, eY cI my mdy, eP cJ mp mpd]) 0 0 (va_A [eM hm mh mo my mp M mc, eH cI mh mhol, eO cI mo mof, eY cI my mdy, eP cJ mp mpd] sz) := by
  refine Met.ofW (cc := cX5_weekday_) (maxL := 2) (ret := (some .int)) (by decide) rfl ?_
  intro p e s m args below meth c s₁ Bd hml hv
  obtain ⟨rfl, hsz, hZ, hP, hK, hD0⟩ := hv
  have hx := Bd.exec
  have hb := Bd.bytes
  have hr := Bd.returns
  have hts := atoms_spec (ws := wsX5_weekday_) Bd.pre
  have hown : s.vm.findClass RX5 = some m.cls := findClass_of_methodNamed Bd.named
  have hlocks := Bd.notSynchronized
  subst hsz
  have hD := hD0.self (sz := s.heap.size)
  generalize hAe : va_A [eM hm mh mo my mp M mc, eH cI mh mhol, eO cI mo mof, eY cI my mdy, eP cJ mp mpd] s.heap.size = A at hD hZ ⊢
  have hA : ∀ q : Nat, s.heap.size ≤ q → A q := fun q h => by rw [← hAe]; exact Or.inr h
  have hS : va_S A s.heap s.heap [] := va_S.rf
  have hl := lv_entry ([.ref hm, .int a0]) (n := 2) (Nat.le_of_ble_eq_true rfl)
  rw [lg_entry_eq]
  generalize (lg_sl ([.ref hm, .int a0]) ++ List.replicate (2 - (lg_sl ([.ref hm, .int a0])).length) Slot.unset).toArray = ls at hl ⊢
  have hl : lv_has ls 2 [(0, .ref hm), (1, .int a0)] := hl
  unfold f_X5_weekday_ at hf
  refine lv_aload_n hx hb dX5_weekday__0 rfl (lv_at hl 0 rfl) ?_
  refine lv_iconst (v := 0) hx hb dX5_weekday__1 (by decide) ?_
  refine va_put (D := D) (ci := 4) (v := .int 0) (ty := .int) (C := RX5) (T := TX5) (N := 10) hx hb hts inX5_weekday__X5 tyX5 tyX5_ok nmX5 hown hK hP hD hS 0 rfl rfl 0 (by decide) (hts (.fieldLink RX5 41 "BondDeskModel" "thrown" "I") (by decide +kernel)) (fun _ h9 => h9) rfl (by decide +kernel) rfl rfl (Nat.le_of_ble_eq_true rfl) dX5_weekday__2 (fun H locs hP hD hS => ?_)
  have hP : va_P D vwCl [eM hm mh mo my mp (va_up M 0 (0 : Int32)) mc, eH cI mh mhol, eO cI mo mof, eY cI my mdy, eP cJ mp mpd] H := hP
  have hD : va_D A [eM hm mh mo my mp (va_up M 0 (0 : Int32)) mc, eH cI mh mhol, eO cI mo mof, eY cI my mdy, eP cJ mp mpd] := hD
  refine lv_iload_n hx hb dX5_weekday__5 rfl (lv_at hl 1 rfl) ?_
  obtain ⟨v1, hv1, hf⟩ := ob hf
  refine cSz (W.runS (As := [.int a0]) (rest := []) ⟨hx, hb, hml, hown, hts⟩ (m_X5_isDate l D cI cJ cO a0 v1 hv1) (va_cwS 1 hts gX5_weekday__X5_isDate rfl rfl rfl (by decide +kernel) ⟨(Nat.le_of_ble_eq_true rfl), (Nat.le_of_ble_eq_true rfl)⟩) ⟨pw_blind, fun U hU hW => ⟨rfl, pw_at hZ hS hP hK hU hW (Or.inr rfl) [] rfl⟩⟩ rfl rfl hl.1 rfl (lv_room (Nat.le_of_ble_eq_true rfl)) dX5_weekday__6 ⟨(Nat.le_of_ble_eq_true rfl), (Nat.le_of_ble_eq_true rfl)⟩) (fun zv1 => ?_)
  refine lv_if_eq (tgt := 23) hx hb dX5_weekday__9 (by decide) (fun c2 => ?_) (fun c2 => ?_)
  · have hf := it hf c2
    refine lv_aload_n hx hb dX5_weekday__23 rfl (lv_at hl 0 rfl) ?_
    refine lv_iconst (v := 1) hx hb dX5_weekday__24 (by decide) ?_
    obtain ⟨v3, hv3, hf⟩ := ob hf
    have hPc := hP.sub (ws' := [eM hm mh mo my mp (va_up M 0 (0 : Int32)) mc, eH cI mh mhol, eO cI mo mof, eY cI my mdy, eP cJ mp mpd]) [0, 1, 2, 3, 4] rfl
    have hDc := hD.sub (ws' := [eM hm mh mo my mp (va_up M 0 (0 : Int32)) mc, eH cI mh mhol, eO cI mo mof, eY cI my mdy, eP cJ mp mpd]) [0, 1, 2, 3, 4] (by decide) rfl
    have hFc := va_free (wc := [eM hm mh mo my mp (va_up M 0 (0 : Int32)) mc, eH cI mh mhol, eO cI mo mof, eY cI my mdy, eP cJ mp mpd]) hD hS hA [0, 1, 2, 3, 4] rfl
    refine va_calli (va_runV (As := [.int 1]) (rest := []) ⟨hx, hb, hml, hown, hts⟩ (m_X5_no l D cI cJ cO hm mh mo my mp (va_up M 0 (0 : Int32)) mc mhol mof mdy mpd H.size 1 v3 hv3) (cwV 1 hts gX5_weekday__X5_no rfl rfl rfl (by decide +kernel) ⟨(Nat.le_of_ble_eq_true rfl), (Nat.le_of_ble_eq_true rfl)⟩) ⟨mp_blind, va_recv hK hP (ci := 4) (q0 := 0) rfl rfl, fun U hU hW => ⟨rfl, mp_at hZ hS hPc hK hDc hFc hU hW (Or.inr rfl)⟩⟩ rfl rfl hl.1 rfl (lv_room (Nat.le_of_ble_eq_true rfl)) dX5_weekday__25 ⟨(Nat.le_of_ble_eq_true rfl), (Nat.le_of_ble_eq_true rfl)⟩) hS (fun q _ h => hFc q h) hFc (fun rv3 u t H1 locs ht9 hvm hw hBx hz1 hk1 hS => ?_)
    subst hw
    obtain ⟨hP1, hD1⟩ := hBx
    rw [ht9] at hP1
    obtain ⟨hP, hD⟩ := va_join (wr := []) (w1 := [eM hm mh mo my mp v3.2 mc, eH cI mh mhol, eO cI mo mof, eY cI my mdy, eP cJ mp mpd]) hP hD [0, 1, 2, 3, 4] [] rfl rfl (by decide) (by decide) hk1 hFc hP1 hD1
    have hP := hP.sub (ws' := [eM hm mh mo my mp v3.2 mc, eH cI mh mhol, eO cI mo mof, eY cI my mdy, eP cJ mp mpd]) [0, 1, 2, 3, 4] rfl
    have hD := hD.sub (ws' := [eM hm mh mo my mp v3.2 mc, eH cI mh mhol, eO cI mo mof, eY cI my mdy, eP cJ mp mpd]) [0, 1, 2, 3, 4] (by decide) rfl
    generalize H1 = H at hP hS ⊢
    refine W.widen (k := 0) (n := 0) (Nat.le_of_ble_eq_true rfl) (Nat.le_of_ble_eq_true rfl) ?_
    have e9 := Option.some.inj hf
    subst e9
    exact W.iret hx hb hr (fun t ht hW => ⟨⟨_, (), rfl, rfl, by rw [ht]; exact hP, hD⟩, hS.F ht⟩) hS.2.2 dX5_weekday__28
  · have hf := ie hf c2
    refine lv_iload_n hx hb dX5_weekday__12 rfl (lv_at hl 1 rfl) ?_
    obtain ⟨v4, hv4, hf⟩ := ob hf
    refine cSi (W.runS (As := [.int a0]) (rest := []) ⟨hx, hb, hml, hown, hts⟩ (m_X5_number l D cI cJ cO a0 N v4 hv4) (va_cwS 1 hts gX5_weekday__X5_number rfl rfl rfl (by decide +kernel) ⟨(Nat.le_of_ble_eq_true rfl), (Nat.le_of_ble_eq_true rfl)⟩) ⟨pw_blind, fun U hU hW => ⟨rfl, pw_at hZ hS hP hK hU hW (Or.inr rfl) [] rfl⟩⟩ rfl rfl hl.1 rfl (lv_room (Nat.le_of_ble_eq_true rfl)) dX5_weekday__13 ⟨(Nat.le_of_ble_eq_true rfl), (Nat.le_of_ble_eq_true rfl)⟩) ?_
    refine lv_iconst (v := 4) hx hb dX5_weekday__16 (by decide) ?_
    obtain ⟨v5, hv5, hf⟩ := ob hf
    refine cSi (W.runS (As := [.int v4, .int 4]) (rest := []) ⟨hx, hb, hml, hown, hts⟩ (m_X5_weekday l D cI cJ cO v4 4 v5 hv5) (va_cwS 2 hts gX5_weekday__X5_weekday rfl rfl rfl (by decide +kernel) ⟨(Nat.le_of_ble_eq_true rfl), (Nat.le_of_ble_eq_true rfl)⟩) ⟨pw_blind, fun U hU hW => ⟨rfl, pw_at hZ hS hP hK hU hW (Or.inr rfl) [] rfl⟩⟩ rfl rfl hl.1 rfl (lv_room (Nat.le_of_ble_eq_true rfl)) dX5_weekday__17 ⟨(Nat.le_of_ble_eq_true rfl), (Nat.le_of_ble_eq_true rfl)⟩) ?_
    refine lv_goto (tgt := 28) hx hb dX5_weekday__20 (by decide) ?_
    refine W.widen (k := 0) (n := 0) (Nat.le_of_ble_eq_true rfl) (Nat.le_of_ble_eq_true rfl) ?_
    have e9 := Option.some.inj hf
    subst e9
    exact W.iret hx hb hr (fun t ht hW => ⟨⟨_, (), rfl, rfl, by rw [ht]; exact hP, hD⟩, hS.F ht⟩) hS.2.2 dX5_weekday__28
theorem inX5_addHoliday_X5 : ∀ w ∈ wsX50, w ∈ wsX5_addHoliday := by decide +kernel
set_option maxHeartbeats 4000000 in
set_option maxRecDepth 100000 in
theorem m_X5_addHoliday (l : Launch) (D : va_G) (cI cJ cO : ClassId) (hm : Nat) (mh : Nat) (mo : Nat) (my : Nat) (mp : Nat) (M : Nat → Int32) (mc : Int64) (mhol : Nat → Int32) (mof : Nat → Int32) (mdy : Nat → Int32) (mpd : Nat → Int64) (sz : Nat) (a0 : Int32) (N : Nat) (r : Int32 × (Nat → Int32) × (Nat → Int32)) (hf : f_X5_addHoliday N M mhol a0 = some r) : Met l yX5_addHoliday wsX5_addHoliday ({ frames := 2, cells := 0, slots := 0, locals := 44 }) (va_Pc [.ref hm, .int a0] (mP D (ty3 cI cJ cO) none [eM hm mh mo my mp M mc, eH cI mh mhol, eO cI mo mof, eY cI my mdy, eP cJ mp mpd] sz)) (mQi D (va_A [eM hm mh mo my mp M mc, eH cI mh mhol, eO cI mo mof, eY cI my mdy, eP cJ mp mpd] sz) r.1 [eM hm mh mo my mp r.2.1 mc, eH cI mh r.2.2, eO cI mo mof, eY cI my mdy, eP cJ mp mpd]) 0 0 (va_A [eM hm mh mo my mp M mc, eH cI mh mhol, eO cI mo mof, eY cI my mdy, eP cJ mp mpd] sz) := by
  refine Met.ofW (cc := cX5_addHoliday) (maxL := 4) (ret := (some .int)) (by decide) rfl ?_
  intro p e s m args below meth c s₁ Bd hml hv
  obtain ⟨rfl, hsz, hZ, hP, hK, hD0⟩ := hv
  have hx := Bd.exec
  have hb := Bd.bytes
  have hr := Bd.returns
  have hts := atoms_spec (ws := wsX5_addHoliday) Bd.pre
  have hown : s.vm.findClass RX5 = some m.cls := findClass_of_methodNamed Bd.named
  have hlocks := Bd.notSynchronized
  subst hsz
  have hD := hD0.self (sz := s.heap.size)
  generalize hAe : va_A [eM hm mh mo my mp M mc, eH cI mh mhol, eO cI mo mof, eY cI my mdy, eP cJ mp mpd] s.heap.size = A at hD hZ ⊢
  have hA : ∀ q : Nat, s.heap.size ≤ q → A q := fun q h => by rw [← hAe]; exact Or.inr h
  have hS : va_S A s.heap s.heap [] := va_S.rf
  have hl := lv_entry ([.ref hm, .int a0]) (n := 4) (Nat.le_of_ble_eq_true rfl)
  rw [lg_entry_eq]
  generalize (lg_sl ([.ref hm, .int a0]) ++ List.replicate (4 - (lg_sl ([.ref hm, .int a0])).length) Slot.unset).toArray = ls at hl ⊢
  have hl : lv_has ls 4 [(0, .ref hm), (1, .int a0)] := hl
  unfold f_X5_addHoliday at hf
  refine lv_aload_n hx hb dX5_addHoliday_0 rfl (lv_at hl 0 rfl) ?_
  refine lv_iconst (v := 0) hx hb dX5_addHoliday_1 (by decide) ?_
  refine va_put (D := D) (ci := 4) (v := .int 0) (ty := .int) (C := RX5) (T := TX5) (N := 10) hx hb hts inX5_addHoliday_X5 tyX5 tyX5_ok nmX5 hown hK hP hD hS 0 rfl rfl 0 (by decide) (hts (.fieldLink RX5 41 "BondDeskModel" "thrown" "I") (by decide +kernel)) (fun _ h9 => h9) rfl (by decide +kernel) rfl rfl (Nat.le_of_ble_eq_true rfl) dX5_addHoliday_2 (fun H locs hP hD hS => ?_)
  have hP : va_P D vwCl [eM hm mh mo my mp (va_up M 0 (0 : Int32)) mc, eH cI mh mhol, eO cI mo mof, eY cI my mdy, eP cJ mp mpd] H := hP
  have hD : va_D A [eM hm mh mo my mp (va_up M 0 (0 : Int32)) mc, eH cI mh mhol, eO cI mo mof, eY cI my mdy, eP cJ mp mpd] := hD
  refine lv_iload_n hx hb dX5_addHoliday_5 rfl (lv_at hl 1 rfl) ?_
  obtain ⟨v1, hv1, hf⟩ := ob hf
  refine cSz (W.runS (As := [.int a0]) (rest := []) ⟨hx, hb, hml, hown, hts⟩ (m_X5_isDate l D cI cJ cO a0 v1 hv1) (va_cwS 1 hts gX5_addHoliday_X5_isDate rfl rfl rfl (by decide +kernel) ⟨(Nat.le_of_ble_eq_true rfl), (Nat.le_of_ble_eq_true rfl)⟩) ⟨pw_blind, fun U hU hW => ⟨rfl, pw_at hZ hS hP hK hU hW (Or.inr rfl) [] rfl⟩⟩ rfl rfl hl.1 rfl (lv_room (Nat.le_of_ble_eq_true rfl)) dX5_addHoliday_6 ⟨(Nat.le_of_ble_eq_true rfl), (Nat.le_of_ble_eq_true rfl)⟩) (fun zv1 => ?_)
  refine lv_if_ne (tgt := 18) hx hb dX5_addHoliday_9 (by decide) (fun c2 => ?_) (fun c2 => ?_)
  · have hf := ie hf c2
    refine lv_iload_n hx hb dX5_addHoliday_18 rfl (lv_at hl 1 rfl) ?_
    obtain ⟨v3, hv3, hf⟩ := ob hf
    refine cSi (W.runS (As := [.int a0]) (rest := []) ⟨hx, hb, hml, hown, hts⟩ (m_X5_number l D cI cJ cO a0 N v3 hv3) (va_cwS 1 hts gX5_addHoliday_X5_number rfl rfl rfl (by decide +kernel) ⟨(Nat.le_of_ble_eq_true rfl), (Nat.le_of_ble_eq_true rfl)⟩) ⟨pw_blind, fun U hU hW => ⟨rfl, pw_at hZ hS hP hK hU hW (Or.inr rfl) [] rfl⟩⟩ rfl rfl hl.1 rfl (lv_room (Nat.le_of_ble_eq_true rfl)) dX5_addHoliday_19 ⟨(Nat.le_of_ble_eq_true rfl), (Nat.le_of_ble_eq_true rfl)⟩) ?_
    refine lv_istore_n (lv' := [(2, .int v3), (0, .ref hm), (1, .int a0)]) hx hb dX5_addHoliday_22 rfl hl (by decide) rfl (fun ls hl => ?_)
    refine lv_iconst (v := 0) hx hb dX5_addHoliday_23 (by decide) ?_
    refine lv_istore_n (lv' := [(3, .int 0), (2, .int v3), (0, .ref hm), (1, .int a0)]) hx hb dX5_addHoliday_24 rfl hl (by decide) rfl (fun ls hl => ?_)
    obtain ⟨K5, hK5, hf⟩ := kx_s (P := fun k => f_X5_addHoliday_L25 M mhol v3 k N 0 = some r) hf
    have JK5 : ∀  (ls : Array Slot), lv_has ls 4 [(0, .ref hm), (2, .int v3)] → K5 () = some r → W p l e (headSpec wsX5_addHoliday ({ frames := 2, cells := 0, slots := 0, locals := 44 })).room s m ([.ref hm, .int a0] : List Value).toArray below meth c H locs 0 0 (MQ below (mQi D A r.1 [eM hm mh mo my mp r.2.1 mc, eH cI mh r.2.2, eO cI mo mof, eY cI my mdy, eP cJ mp mpd]) ([.ref hm, .int a0] : List Value).toArray s 0 0 A) (F0 m 54 ls []) := by
      intro  ls hl hf
      rw [hK5] at hf
      refine lv_aload_n hx hb dX5_addHoliday_54 rfl (lv_at hl 0 rfl) ?_
      refine va_get (D := D) (ci := 4) (v := .int (M 5)) (C := RX5) (T := TX5) (N := 10) hx hb hts inX5_addHoliday_X5 hown hK hP 0 rfl rfl 5 (by decide) (hts (.fieldLink RX5 57 "BondDeskModel" "holidays" "I") (by decide +kernel)) (fun _ h9 => h9) rfl dX5_addHoliday_55 ?_
      refine lv_bipush (v := 30) hx hb dX5_addHoliday_58 (by decide) ?_
      refine lv_icmp_ne (tgt := 69) hx hb dX5_addHoliday_60 (by decide) (fun c11 => ?_) (fun c11 => ?_)
      · have hf := ie hf c11
        refine lv_aload_n hx hb dX5_addHoliday_69 rfl (lv_at hl 0 rfl) ?_
        refine va_get (D := D) (ci := 4) (v := .ref mh) (C := RX5) (T := TX5) (N := 10) hx hb hts inX5_addHoliday_X5 hown hK hP 0 rfl rfl 6 (by decide) (hts (.fieldLink RX5 27 "BondDeskModel" "holiday" "[I") (by decide +kernel)) (fun _ h9 => h9) rfl dX5_addHoliday_70 ?_
        refine lv_aload_n hx hb dX5_addHoliday_73 rfl (lv_at hl 0 rfl) ?_
        refine va_get (D := D) (ci := 4) (v := .int (M 5)) (C := RX5) (T := TX5) (N := 10) hx hb hts inX5_addHoliday_X5 hown hK hP 0 rfl rfl 5 (by decide) (hts (.fieldLink RX5 57 "BondDeskModel" "holidays" "I") (by decide +kernel)) (fun _ h9 => h9) rfl dX5_addHoliday_74 ?_
        refine lv_iload_n hx hb dX5_addHoliday_77 rfl (lv_at hl 1 rfl) ?_
        obtain ⟨c12, hf⟩ := gd_s hf
        refine va_iast hx hb hK hP hD hS 1 0 rfl rfl c12 dX5_addHoliday_78 (fun H locs hP hD hS => ?_)
        obtain ⟨w13, ew13⟩ : ∃ z, z = upd mhol (M 5).toNatClampNeg v3 := ⟨_, rfl⟩
        have hf := bd_s hf ew13
        rw [← ew13] at hP hD
        have hP : va_P D vwCl [eM hm mh mo my mp (va_up M 0 (0 : Int32)) mc, eH cI mh w13, eO cI mo mof, eY cI my mdy, eP cJ mp mpd] H := hP
        have hD : va_D A [eM hm mh mo my mp (va_up M 0 (0 : Int32)) mc, eH cI mh w13, eO cI mo mof, eY cI my mdy, eP cJ mp mpd] := hD
        refine lv_aload_n hx hb dX5_addHoliday_79 rfl (lv_at hl 0 rfl) ?_
        refine lv_dup hx hb dX5_addHoliday_80 rfl ?_
        refine va_get (D := D) (ci := 4) (v := .int (M 5)) (C := RX5) (T := TX5) (N := 10) hx hb hts inX5_addHoliday_X5 hown hK hP 0 rfl rfl 5 (by decide) (hts (.fieldLink RX5 57 "BondDeskModel" "holidays" "I") (by decide +kernel)) (fun _ h9 => h9) rfl dX5_addHoliday_81 ?_
        refine lv_iconst (v := 1) hx hb dX5_addHoliday_84 (by decide) ?_
        refine lv_iadd hx hb dX5_addHoliday_85 ?_
        refine lv_topi (fun x14 ex14 => ?_)
        have hf := bd_s hf ex14
        refine va_put (D := D) (ci := 4) (v := .int x14) (ty := .int) (C := RX5) (T := TX5) (N := 10) hx hb hts inX5_addHoliday_X5 tyX5 tyX5_ok nmX5 hown hK hP hD hS 0 rfl rfl 5 (by decide) (hts (.fieldLink RX5 57 "BondDeskModel" "holidays" "I") (by decide +kernel)) (fun _ h9 => h9) rfl (by decide +kernel) rfl rfl (Nat.le_of_ble_eq_true rfl) dX5_addHoliday_86 (fun H locs hP hD hS => ?_)
        have hP : va_P D vwCl [eM hm mh mo my mp (va_up (va_up M 0 (0 : Int32)) 5 x14) mc, eH cI mh w13, eO cI mo mof, eY cI my mdy, eP cJ mp mpd] H := hP
        have hD : va_D A [eM hm mh mo my mp (va_up (va_up M 0 (0 : Int32)) 5 x14) mc, eH cI mh w13, eO cI mo mof, eY cI my mdy, eP cJ mp mpd] := hD
        refine lv_aload_n hx hb dX5_addHoliday_89 rfl (lv_at hl 0 rfl) ?_
        refine va_get (D := D) (ci := 4) (v := .int x14) (C := RX5) (T := TX5) (N := 10) hx hb hts inX5_addHoliday_X5 hown hK hP 0 rfl rfl 5 (by decide) (hts (.fieldLink RX5 57 "BondDeskModel" "holidays" "I") (by decide +kernel)) (fun _ h9 => h9) rfl dX5_addHoliday_90 ?_
        refine W.widen (k := 0) (n := 0) (Nat.le_of_ble_eq_true rfl) (Nat.le_of_ble_eq_true rfl) ?_
        have e9 := Option.some.inj hf
        subst e9
        exact W.iret hx hb hr (fun t ht hW => ⟨⟨_, (), rfl, rfl, by rw [ht]; exact hP, hD⟩, hS.F ht⟩) hS.2.2 dX5_addHoliday_93
      · have hf := it hf c11
        refine lv_aload_n hx hb dX5_addHoliday_63 rfl (lv_at hl 0 rfl) ?_
        refine lv_iconst (v := 2) hx hb dX5_addHoliday_64 (by decide) ?_
        obtain ⟨v15, hv15, hf⟩ := ob hf
        have hPc := hP.sub (ws' := [eM hm mh mo my mp (va_up M 0 (0 : Int32)) mc, eH cI mh mhol, eO cI mo mof, eY cI my mdy, eP cJ mp mpd]) [0, 1, 2, 3, 4] rfl
        have hDc := hD.sub (ws' := [eM hm mh mo my mp (va_up M 0 (0 : Int32)) mc, eH cI mh mhol, eO cI mo mof, eY cI my mdy, eP cJ mp mpd]) [0, 1, 2, 3, 4] (by decide) rfl
        have hFc := va_free (wc := [eM hm mh mo my mp (va_up M 0 (0 : Int32)) mc, eH cI mh mhol, eO cI mo mof, eY cI my mdy, eP cJ mp mpd]) hD hS hA [0, 1, 2, 3, 4] rfl
        refine va_calli (va_runV (As := [.int 2]) (rest := []) ⟨hx, hb, hml, hown, hts⟩ (m_X5_no l D cI cJ cO hm mh mo my mp (va_up M 0 (0 : Int32)) mc mhol mof mdy mpd H.size 2 v15 hv15) (cwV 1 hts gX5_addHoliday_X5_no rfl rfl rfl (by decide +kernel) ⟨(Nat.le_of_ble_eq_true rfl), (Nat.le_of_ble_eq_true rfl)⟩) ⟨mp_blind, va_recv hK hP (ci := 4) (q0 := 0) rfl rfl, fun U hU hW => ⟨rfl, mp_at hZ hS hPc hK hDc hFc hU hW (Or.inr rfl)⟩⟩ rfl rfl hl.1 rfl (lv_room (Nat.le_of_ble_eq_true rfl)) dX5_addHoliday_65 ⟨(Nat.le_of_ble_eq_true rfl), (Nat.le_of_ble_eq_true rfl)⟩) hS (fun q _ h => hFc q h) hFc (fun rv15 u t H1 locs ht9 hvm hw hBx hz1 hk1 hS => ?_)
        subst hw
        obtain ⟨hP1, hD1⟩ := hBx
        rw [ht9] at hP1
        obtain ⟨hP, hD⟩ := va_join (wr := []) (w1 := [eM hm mh mo my mp v15.2 mc, eH cI mh mhol, eO cI mo mof, eY cI my mdy, eP cJ mp mpd]) hP hD [0, 1, 2, 3, 4] [] rfl rfl (by decide) (by decide) hk1 hFc hP1 hD1
        have hP := hP.sub (ws' := [eM hm mh mo my mp v15.2 mc, eH cI mh mhol, eO cI mo mof, eY cI my mdy, eP cJ mp mpd]) [0, 1, 2, 3, 4] rfl
        have hD := hD.sub (ws' := [eM hm mh mo my mp v15.2 mc, eH cI mh mhol, eO cI mo mof, eY cI my mdy, eP cJ mp mpd]) [0, 1, 2, 3, 4] (by decide) rfl
        generalize H1 = H at hP hS ⊢
        refine W.widen (k := 0) (n := 0) (Nat.le_of_ble_eq_true rfl) (Nat.le_of_ble_eq_true rfl) ?_
        have e9 := Option.some.inj hf
        subst e9
        exact W.iret hx hb hr (fun t ht hW => ⟨⟨_, (), rfl, rfl, by rw [ht]; exact hP, hD⟩, hS.F ht⟩) hS.2.2 dX5_addHoliday_68
    have LP25 : ∀ (n6 : Nat) (x4 : Int32) (ls : Array Slot), lv_has ls 4 [(0, .ref hm), (2, .int v3), (3, .int x4)] → f_X5_addHoliday_L25 M mhol v3 K5 n6 x4 = some r → W p l e (headSpec wsX5_addHoliday ({ frames := 2, cells := 0, slots := 0, locals := 44 })).room s m ([.ref hm, .int a0] : List Value).toArray below meth c H locs 0 0 (MQ below (mQi D A r.1 [eM hm mh mo my mp r.2.1 mc, eH cI mh r.2.2, eO cI mo mof, eY cI my mdy, eP cJ mp mpd]) ([.ref hm, .int a0] : List Value).toArray s 0 0 A) (F0 m 25 ls []) := by
      intro n6
      induction n6 with
      | zero => intro x4 ls hl hf; exact (no_s hf).elim
      | succ n6 ih6 =>
        intro x4 ls hl hf
        rw [f_X5_addHoliday_L25] at hf
        refine lv_iload_n hx hb dX5_addHoliday_25 rfl (lv_at hl 2 rfl) ?_
        refine lv_aload_n hx hb dX5_addHoliday_26 rfl (lv_at hl 0 rfl) ?_
        refine va_get (D := D) (ci := 4) (v := .int (M 5)) (C := RX5) (T := TX5) (N := 10) hx hb hts inX5_addHoliday_X5 hown hK hP 0 rfl rfl 5 (by decide) (hts (.fieldLink RX5 57 "BondDeskModel" "holidays" "I") (by decide +kernel)) (fun _ h9 => h9) rfl dX5_addHoliday_27 ?_
        refine lv_icmp_ge (tgt := 54) hx hb dX5_addHoliday_30 (by decide) (fun c7 => ?_) (fun c7 => ?_)
        · have hf := it hf c7
          exact JK5  ls (lv_sub hl [0, 1] rfl) hf
        · have hf := ie hf c7
          refine lv_aload_n hx hb dX5_addHoliday_33 rfl (lv_at hl 0 rfl) ?_
          refine va_get (D := D) (ci := 4) (v := .ref mh) (C := RX5) (T := TX5) (N := 10) hx hb hts inX5_addHoliday_X5 hown hK hP 0 rfl rfl 6 (by decide) (hts (.fieldLink RX5 27 "BondDeskModel" "holiday" "[I") (by decide +kernel)) (fun _ h9 => h9) rfl dX5_addHoliday_34 ?_
          refine lv_iload_n hx hb dX5_addHoliday_37 rfl (lv_at hl 2 rfl) ?_
          obtain ⟨c8, hf⟩ := gd_s hf
          refine va_iald hx hb hK hP 1 0 rfl rfl c8 dX5_addHoliday_38 ?_
          refine lv_iload_n hx hb dX5_addHoliday_39 rfl (lv_at hl 1 rfl) ?_
          refine lv_icmp_ne (tgt := 48) hx hb dX5_addHoliday_40 (by decide) (fun c9 => ?_) (fun c9 => ?_)
          · have hf := ie hf c9
            obtain ⟨x10, ex10⟩ : ∃ y : Int32, y = x4 + 1 := ⟨_, rfl⟩
            have hf := bd_s hf ex10
            refine lv_iinc (v := x10) (lv' := [(3, .int x10), (0, .ref hm), (2, .int v3)]) hx hb dX5_addHoliday_48 hl (k := 2) rfl (by rw [ex10]; rfl) (by decide) rfl (fun ls hl => ?_)
            refine lv_goto (tgt := 25) hx hb dX5_addHoliday_51 (by decide) ?_
            exact ih6 x10 ls (lv_sub hl [1, 2, 0] rfl) hf
          · have hf := it hf c9
            refine lv_aload_n hx hb dX5_addHoliday_43 rfl (lv_at hl 0 rfl) ?_
            refine va_get (D := D) (ci := 4) (v := .int (M 5)) (C := RX5) (T := TX5) (N := 10) hx hb hts inX5_addHoliday_X5 hown hK hP 0 rfl rfl 5 (by decide) (hts (.fieldLink RX5 57 "BondDeskModel" "holidays" "I") (by decide +kernel)) (fun _ h9 => h9) rfl dX5_addHoliday_44 ?_
            refine W.widen (k := 0) (n := 0) (Nat.le_of_ble_eq_true rfl) (Nat.le_of_ble_eq_true rfl) ?_
            have e9 := Option.some.inj hf
            subst e9
            exact W.iret hx hb hr (fun t ht hW => ⟨⟨_, (), rfl, rfl, by rw [ht]; exact hP, hD⟩, hS.F ht⟩) hS.2.2 dX5_addHoliday_47
    exact LP25 N 0 ls (lv_sub hl [2, 1, 0] rfl) hf
  · have hf := it hf c2
    refine lv_aload_n hx hb dX5_addHoliday_12 rfl (lv_at hl 0 rfl) ?_
    refine lv_iconst (v := 1) hx hb dX5_addHoliday_13 (by decide) ?_
    obtain ⟨v16, hv16, hf⟩ := ob hf
    have hPc := hP.sub (ws' := [eM hm mh mo my mp (va_up M 0 (0 : Int32)) mc, eH cI mh mhol, eO cI mo mof, eY cI my mdy, eP cJ mp mpd]) [0, 1, 2, 3, 4] rfl
    have hDc := hD.sub (ws' := [eM hm mh mo my mp (va_up M 0 (0 : Int32)) mc, eH cI mh mhol, eO cI mo mof, eY cI my mdy, eP cJ mp mpd]) [0, 1, 2, 3, 4] (by decide) rfl
    have hFc := va_free (wc := [eM hm mh mo my mp (va_up M 0 (0 : Int32)) mc, eH cI mh mhol, eO cI mo mof, eY cI my mdy, eP cJ mp mpd]) hD hS hA [0, 1, 2, 3, 4] rfl
    refine va_calli (va_runV (As := [.int 1]) (rest := []) ⟨hx, hb, hml, hown, hts⟩ (m_X5_no l D cI cJ cO hm mh mo my mp (va_up M 0 (0 : Int32)) mc mhol mof mdy mpd H.size 1 v16 hv16) (cwV 1 hts gX5_addHoliday_X5_no rfl rfl rfl (by decide +kernel) ⟨(Nat.le_of_ble_eq_true rfl), (Nat.le_of_ble_eq_true rfl)⟩) ⟨mp_blind, va_recv hK hP (ci := 4) (q0 := 0) rfl rfl, fun U hU hW => ⟨rfl, mp_at hZ hS hPc hK hDc hFc hU hW (Or.inr rfl)⟩⟩ rfl rfl hl.1 rfl (lv_room (Nat.le_of_ble_eq_true rfl)) dX5_addHoliday_14 ⟨(Nat.le_of_ble_eq_true rfl), (Nat.le_of_ble_eq_true rfl)⟩) hS (fun q _ h => hFc q h) hFc (fun rv16 u t H1 locs ht9 hvm hw hBx hz1 hk1 hS => ?_)
    subst hw
    obtain ⟨hP1, hD1⟩ := hBx
    rw [ht9] at hP1
    obtain ⟨hP, hD⟩ := va_join (wr := []) (w1 := [eM hm mh mo my mp v16.2 mc, eH cI mh mhol, eO cI mo mof, eY cI my mdy, eP cJ mp mpd]) hP hD [0, 1, 2, 3, 4] [] rfl rfl (by decide) (by decide) hk1 hFc hP1 hD1
    have hP := hP.sub (ws' := [eM hm mh mo my mp v16.2 mc, eH cI mh mhol, eO cI mo mof, eY cI my mdy, eP cJ mp mpd]) [0, 1, 2, 3, 4] rfl
    have hD := hD.sub (ws' := [eM hm mh mo my mp v16.2 mc, eH cI mh mhol, eO cI mo mof, eY cI my mdy, eP cJ mp mpd]) [0, 1, 2, 3, 4] (by decide) rfl
    generalize H1 = H at hP hS ⊢
    refine W.widen (k := 0) (n := 0) (Nat.le_of_ble_eq_true rfl) (Nat.le_of_ble_eq_true rfl) ?_
    have e9 := Option.some.inj hf
    subst e9
    exact W.iret hx hb hr (fun t ht hW => ⟨⟨_, (), rfl, rfl, by rw [ht]; exact hP, hD⟩, hS.F ht⟩) hS.2.2 dX5_addHoliday_17
theorem inX5_working_X5 : ∀ w ∈ wsX50, w ∈ wsX5_working := by decide +kernel
set_option maxHeartbeats 4000000 in
set_option maxRecDepth 100000 in
theorem m_X5_working (l : Launch) (D : va_G) (cI cJ cO : ClassId) (hm : Nat) (mh : Nat) (mo : Nat) (my : Nat) (mp : Nat) (M : Nat → Int32) (mc : Int64) (mhol : Nat → Int32) (mof : Nat → Int32) (mdy : Nat → Int32) (mpd : Nat → Int64) (sz : Nat) (a0 : Int32) (N : Nat) (r : Int32 × (Nat → Int32)) (hf : f_X5_working N M mhol a0 = some r) : Met l yX5_working wsX5_working ({ frames := 3, cells := 0, slots := 0, locals := 66 }) (va_Pc [.ref hm, .int a0] (mP D (ty3 cI cJ cO) none [eM hm mh mo my mp M mc, eH cI mh mhol, eO cI mo mof, eY cI my mdy, eP cJ mp mpd] sz)) (mQi D (va_A [eM hm mh mo my mp M mc, eH cI mh mhol, eO cI mo mof, eY cI my mdy, eP cJ mp mpd] sz) r.1 [eM hm mh mo my mp r.2 mc, eH cI mh mhol, eO cI mo mof, eY cI my mdy, eP cJ mp mpd]) 0 0 (va_A [eM hm mh mo my mp M mc, eH cI mh mhol, eO cI mo mof, eY cI my mdy, eP cJ mp mpd] sz) := by
  refine Met.ofW (cc := cX5_working) (maxL := 2) (ret := (some .int)) (by decide) rfl ?_
  intro p e s m args below meth c s₁ Bd hml hv
  obtain ⟨rfl, hsz, hZ, hP, hK, hD0⟩ := hv
  have hx := Bd.exec
  have hb := Bd.bytes
  have hr := Bd.returns
  have hts := atoms_spec (ws := wsX5_working) Bd.pre
  have hown : s.vm.findClass RX5 = some m.cls := findClass_of_methodNamed Bd.named
  have hlocks := Bd.notSynchronized
  subst hsz
  have hD := hD0.self (sz := s.heap.size)
  generalize hAe : va_A [eM hm mh mo my mp M mc, eH cI mh mhol, eO cI mo mof, eY cI my mdy, eP cJ mp mpd] s.heap.size = A at hD hZ ⊢
  have hA : ∀ q : Nat, s.heap.size ≤ q → A q := fun q h => by rw [← hAe]; exact Or.inr h
  have hS : va_S A s.heap s.heap [] := va_S.rf
  have hl := lv_entry ([.ref hm, .int a0]) (n := 2) (Nat.le_of_ble_eq_true rfl)
  rw [lg_entry_eq]
  generalize (lg_sl ([.ref hm, .int a0]) ++ List.replicate (2 - (lg_sl ([.ref hm, .int a0])).length) Slot.unset).toArray = ls at hl ⊢
  have hl : lv_has ls 2 [(0, .ref hm), (1, .int a0)] := hl
  unfold f_X5_working at hf
  refine lv_aload_n hx hb dX5_working_0 rfl (lv_at hl 0 rfl) ?_
  refine lv_iconst (v := 0) hx hb dX5_working_1 (by decide) ?_
  refine va_put (D := D) (ci := 4) (v := .int 0) (ty := .int) (C := RX5) (T := TX5) (N := 10) hx hb hts inX5_working_X5 tyX5 tyX5_ok nmX5 hown hK hP hD hS 0 rfl rfl 0 (by decide) (hts (.fieldLink RX5 41 "BondDeskModel" "thrown" "I") (by decide +kernel)) (fun _ h9 => h9) rfl (by decide +kernel) rfl rfl (Nat.le_of_ble_eq_true rfl) dX5_working_2 (fun H locs hP hD hS => ?_)
  have hP : va_P D vwCl [eM hm mh mo my mp (va_up M 0 (0 : Int32)) mc, eH cI mh mhol, eO cI mo mof, eY cI my mdy, eP cJ mp mpd] H := hP
  have hD : va_D A [eM hm mh mo my mp (va_up M 0 (0 : Int32)) mc, eH cI mh mhol, eO cI mo mof, eY cI my mdy, eP cJ mp mpd] := hD
  refine lv_iload_n hx hb dX5_working_5 rfl (lv_at hl 1 rfl) ?_
  obtain ⟨v1, hv1, hf⟩ := ob hf
  refine cSz (W.runS (As := [.int a0]) (rest := []) ⟨hx, hb, hml, hown, hts⟩ (m_X5_isDate l D cI cJ cO a0 v1 hv1) (va_cwS 1 hts gX5_working_X5_isDate rfl rfl rfl (by decide +kernel) ⟨(Nat.le_of_ble_eq_true rfl), (Nat.le_of_ble_eq_true rfl)⟩) ⟨pw_blind, fun U hU hW => ⟨rfl, pw_at hZ hS hP hK hU hW (Or.inr rfl) [] rfl⟩⟩ rfl rfl hl.1 rfl (lv_room (Nat.le_of_ble_eq_true rfl)) dX5_working_6 ⟨(Nat.le_of_ble_eq_true rfl), (Nat.le_of_ble_eq_true rfl)⟩) (fun zv1 => ?_)
  refine lv_if_eq (tgt := 32) hx hb dX5_working_9 (by decide) (fun c2 => ?_) (fun c2 => ?_)
  · have hf := it hf c2
    refine lv_aload_n hx hb dX5_working_32 rfl (lv_at hl 0 rfl) ?_
    refine lv_iconst (v := 1) hx hb dX5_working_33 (by decide) ?_
    obtain ⟨v3, hv3, hf⟩ := ob hf
    have hPc := hP.sub (ws' := [eM hm mh mo my mp (va_up M 0 (0 : Int32)) mc, eH cI mh mhol, eO cI mo mof, eY cI my mdy, eP cJ mp mpd]) [0, 1, 2, 3, 4] rfl
    have hDc := hD.sub (ws' := [eM hm mh mo my mp (va_up M 0 (0 : Int32)) mc, eH cI mh mhol, eO cI mo mof, eY cI my mdy, eP cJ mp mpd]) [0, 1, 2, 3, 4] (by decide) rfl
    have hFc := va_free (wc := [eM hm mh mo my mp (va_up M 0 (0 : Int32)) mc, eH cI mh mhol, eO cI mo mof, eY cI my mdy, eP cJ mp mpd]) hD hS hA [0, 1, 2, 3, 4] rfl
    refine va_calli (va_runV (As := [.int 1]) (rest := []) ⟨hx, hb, hml, hown, hts⟩ (m_X5_no l D cI cJ cO hm mh mo my mp (va_up M 0 (0 : Int32)) mc mhol mof mdy mpd H.size 1 v3 hv3) (cwV 1 hts gX5_working_X5_no rfl rfl rfl (by decide +kernel) ⟨(Nat.le_of_ble_eq_true rfl), (Nat.le_of_ble_eq_true rfl)⟩) ⟨mp_blind, va_recv hK hP (ci := 4) (q0 := 0) rfl rfl, fun U hU hW => ⟨rfl, mp_at hZ hS hPc hK hDc hFc hU hW (Or.inr rfl)⟩⟩ rfl rfl hl.1 rfl (lv_room (Nat.le_of_ble_eq_true rfl)) dX5_working_34 ⟨(Nat.le_of_ble_eq_true rfl), (Nat.le_of_ble_eq_true rfl)⟩) hS (fun q _ h => hFc q h) hFc (fun rv3 u t H1 locs ht9 hvm hw hBx hz1 hk1 hS => ?_)
    subst hw
    obtain ⟨hP1, hD1⟩ := hBx
    rw [ht9] at hP1
    obtain ⟨hP, hD⟩ := va_join (wr := []) (w1 := [eM hm mh mo my mp v3.2 mc, eH cI mh mhol, eO cI mo mof, eY cI my mdy, eP cJ mp mpd]) hP hD [0, 1, 2, 3, 4] [] rfl rfl (by decide) (by decide) hk1 hFc hP1 hD1
    have hP := hP.sub (ws' := [eM hm mh mo my mp v3.2 mc, eH cI mh mhol, eO cI mo mof, eY cI my mdy, eP cJ mp mpd]) [0, 1, 2, 3, 4] rfl
    have hD := hD.sub (ws' := [eM hm mh mo my mp v3.2 mc, eH cI mh mhol, eO cI mo mof, eY cI my mdy, eP cJ mp mpd]) [0, 1, 2, 3, 4] (by decide) rfl
    generalize H1 = H at hP hS ⊢
    refine W.widen (k := 0) (n := 0) (Nat.le_of_ble_eq_true rfl) (Nat.le_of_ble_eq_true rfl) ?_
    have e9 := Option.some.inj hf
    subst e9
    exact W.iret hx hb hr (fun t ht hW => ⟨⟨_, (), rfl, rfl, by rw [ht]; exact hP, hD⟩, hS.F ht⟩) hS.2.2 dX5_working_37
  · have hf := ie hf c2
    refine lv_iload_n hx hb dX5_working_12 rfl (lv_at hl 1 rfl) ?_
    refine lv_ldc hx hb hown (hts (.constant RX5 73 (20661101)) (by decide +kernel)) dX5_working_13 ?_
    refine lv_icmp_gt (tgt := 32) hx hb dX5_working_15 (by decide) (fun c4 => ?_) (fun c4 => ?_)
    · have hf := it hf c4
      refine lv_aload_n hx hb dX5_working_32 rfl (lv_at hl 0 rfl) ?_
      refine lv_iconst (v := 1) hx hb dX5_working_33 (by decide) ?_
      obtain ⟨v5, hv5, hf⟩ := ob hf
      have hPc := hP.sub (ws' := [eM hm mh mo my mp (va_up M 0 (0 : Int32)) mc, eH cI mh mhol, eO cI mo mof, eY cI my mdy, eP cJ mp mpd]) [0, 1, 2, 3, 4] rfl
      have hDc := hD.sub (ws' := [eM hm mh mo my mp (va_up M 0 (0 : Int32)) mc, eH cI mh mhol, eO cI mo mof, eY cI my mdy, eP cJ mp mpd]) [0, 1, 2, 3, 4] (by decide) rfl
      have hFc := va_free (wc := [eM hm mh mo my mp (va_up M 0 (0 : Int32)) mc, eH cI mh mhol, eO cI mo mof, eY cI my mdy, eP cJ mp mpd]) hD hS hA [0, 1, 2, 3, 4] rfl
      refine va_calli (va_runV (As := [.int 1]) (rest := []) ⟨hx, hb, hml, hown, hts⟩ (m_X5_no l D cI cJ cO hm mh mo my mp (va_up M 0 (0 : Int32)) mc mhol mof mdy mpd H.size 1 v5 hv5) (cwV 1 hts gX5_working_X5_no rfl rfl rfl (by decide +kernel) ⟨(Nat.le_of_ble_eq_true rfl), (Nat.le_of_ble_eq_true rfl)⟩) ⟨mp_blind, va_recv hK hP (ci := 4) (q0 := 0) rfl rfl, fun U hU hW => ⟨rfl, mp_at hZ hS hPc hK hDc hFc hU hW (Or.inr rfl)⟩⟩ rfl rfl hl.1 rfl (lv_room (Nat.le_of_ble_eq_true rfl)) dX5_working_34 ⟨(Nat.le_of_ble_eq_true rfl), (Nat.le_of_ble_eq_true rfl)⟩) hS (fun q _ h => hFc q h) hFc (fun rv5 u t H1 locs ht9 hvm hw hBx hz1 hk1 hS => ?_)
      subst hw
      obtain ⟨hP1, hD1⟩ := hBx
      rw [ht9] at hP1
      obtain ⟨hP, hD⟩ := va_join (wr := []) (w1 := [eM hm mh mo my mp v5.2 mc, eH cI mh mhol, eO cI mo mof, eY cI my mdy, eP cJ mp mpd]) hP hD [0, 1, 2, 3, 4] [] rfl rfl (by decide) (by decide) hk1 hFc hP1 hD1
      have hP := hP.sub (ws' := [eM hm mh mo my mp v5.2 mc, eH cI mh mhol, eO cI mo mof, eY cI my mdy, eP cJ mp mpd]) [0, 1, 2, 3, 4] rfl
      have hD := hD.sub (ws' := [eM hm mh mo my mp v5.2 mc, eH cI mh mhol, eO cI mo mof, eY cI my mdy, eP cJ mp mpd]) [0, 1, 2, 3, 4] (by decide) rfl
      generalize H1 = H at hP hS ⊢
      refine W.widen (k := 0) (n := 0) (Nat.le_of_ble_eq_true rfl) (Nat.le_of_ble_eq_true rfl) ?_
      have e9 := Option.some.inj hf
      subst e9
      exact W.iret hx hb hr (fun t ht hW => ⟨⟨_, (), rfl, rfl, by rw [ht]; exact hP, hD⟩, hS.F ht⟩) hS.2.2 dX5_working_37
    · have hf := ie hf c4
      refine lv_aload_n hx hb dX5_working_18 rfl (lv_at hl 0 rfl) ?_
      refine lv_iload_n hx hb dX5_working_19 rfl (lv_at hl 1 rfl) ?_
      obtain ⟨v6, hv6, hf⟩ := ob hf
      refine cSi (W.runS (As := [.int a0]) (rest := [.ref hm]) ⟨hx, hb, hml, hown, hts⟩ (m_X5_number l D cI cJ cO a0 N v6 hv6) (va_cwS 1 hts gX5_working_X5_number rfl rfl rfl (by decide +kernel) ⟨(Nat.le_of_ble_eq_true rfl), (Nat.le_of_ble_eq_true rfl)⟩) ⟨pw_blind, fun U hU hW => ⟨rfl, pw_at hZ hS hP hK hU hW (Or.inr rfl) [] rfl⟩⟩ rfl rfl hl.1 rfl (lv_room (Nat.le_of_ble_eq_true rfl)) dX5_working_20 ⟨(Nat.le_of_ble_eq_true rfl), (Nat.le_of_ble_eq_true rfl)⟩) ?_
      obtain ⟨v7, hv7, hf⟩ := ob hf
      refine cSi (W.runV (As := [.int v6]) (rest := []) ⟨hx, hb, hml, hown, hts⟩ (m_X5_firstWorking l D cI cJ cO hm mh mo my mp (va_up M 0 (0 : Int32)) mc mhol mof mdy mpd v6 N v7 hv7) (cwV 1 hts gX5_working_X5_firstWorking rfl rfl rfl (by decide +kernel) ⟨(Nat.le_of_ble_eq_true rfl), (Nat.le_of_ble_eq_true rfl)⟩) ⟨pw_blind, va_recv hK hP (ci := 4) (q0 := 0) rfl rfl, fun U hU hW => ⟨rfl, pw_at hZ hS hP hK hU hW (Or.inr rfl) [0, 1, 2, 3, 4] rfl⟩⟩ rfl rfl hl.1 rfl (lv_room (Nat.le_of_ble_eq_true rfl)) dX5_working_23 ⟨(Nat.le_of_ble_eq_true rfl), (Nat.le_of_ble_eq_true rfl)⟩) ?_
      obtain ⟨v8, hv8, hf⟩ := ob hf
      refine cSi (W.runS (As := [.int v7]) (rest := []) ⟨hx, hb, hml, hown, hts⟩ (m_X5_date l D cI cJ cO v7 N v8 hv8) (va_cwS 1 hts gX5_working_X5_date rfl rfl rfl (by decide +kernel) ⟨(Nat.le_of_ble_eq_true rfl), (Nat.le_of_ble_eq_true rfl)⟩) ⟨pw_blind, fun U hU hW => ⟨rfl, pw_at hZ hS hP hK hU hW (Or.inr rfl) [] rfl⟩⟩ rfl rfl hl.1 rfl (lv_room (Nat.le_of_ble_eq_true rfl)) dX5_working_26 ⟨(Nat.le_of_ble_eq_true rfl), (Nat.le_of_ble_eq_true rfl)⟩) ?_
      refine lv_goto (tgt := 37) hx hb dX5_working_29 (by decide) ?_
      refine W.widen (k := 0) (n := 0) (Nat.le_of_ble_eq_true rfl) (Nat.le_of_ble_eq_true rfl) ?_
      have e9 := Option.some.inj hf
      subst e9
      exact W.iret hx hb hr (fun t ht hW => ⟨⟨_, (), rfl, rfl, by rw [ht]; exact hP, hD⟩, hS.F ht⟩) hS.2.2 dX5_working_37
theorem inX5_setSink_X5 : ∀ w ∈ wsX50, w ∈ wsX5_setSink := by decide +kernel
set_option maxHeartbeats 4000000 in
set_option maxRecDepth 100000 in
theorem m_X5_setSink (l : Launch) (D : va_G) (cI cJ cO : ClassId) (hm : Nat) (mh : Nat) (mo : Nat) (my : Nat) (mp : Nat) (M : Nat → Int32) (mc : Int64) (mhol : Nat → Int32) (mof : Nat → Int32) (mdy : Nat → Int32) (mpd : Nat → Int64) (sz : Nat) (a0 : Int32) (a1 : Int32) (a2 : Int32) (N : Nat) (r : Int32 × (Nat → Int32) × (Nat → Int32)) (hf : f_X5_setSink N M mof mdy a0 a1 a2 = some r) : Met l yX5_setSink wsX5_setSink ({ frames := 3, cells := 0, slots := 0, locals := 68 }) (va_Pc [.ref hm, .int a0, .int a1, .int a2] (mP D (ty3 cI cJ cO) none [eM hm mh mo my mp M mc, eH cI mh mhol, eO cI mo mof, eY cI my mdy, eP cJ mp mpd] sz)) (mQi D (va_A [eM hm mh mo my mp M mc, eH cI mh mhol, eO cI mo mof, eY cI my mdy, eP cJ mp mpd] sz) r.1 [eM hm mh mo my mp r.2.1 mc, eH cI mh mhol, eO cI mo r.2.2, eY cI my mdy, eP cJ mp mpd]) 0 0 (va_A [eM hm mh mo my mp M mc, eH cI mh mhol, eO cI mo mof, eY cI my mdy, eP cJ mp mpd] sz) := by
  refine Met.ofW (cc := cX5_setSink) (maxL := 4) (ret := (some .int)) (by decide) rfl ?_
  intro p e s m args below meth c s₁ Bd hml hv
  obtain ⟨rfl, hsz, hZ, hP, hK, hD0⟩ := hv
  have hx := Bd.exec
  have hb := Bd.bytes
  have hr := Bd.returns
  have hts := atoms_spec (ws := wsX5_setSink) Bd.pre
  have hown : s.vm.findClass RX5 = some m.cls := findClass_of_methodNamed Bd.named
  have hlocks := Bd.notSynchronized
  subst hsz
  have hD := hD0.self (sz := s.heap.size)
  generalize hAe : va_A [eM hm mh mo my mp M mc, eH cI mh mhol, eO cI mo mof, eY cI my mdy, eP cJ mp mpd] s.heap.size = A at hD hZ ⊢
  have hA : ∀ q : Nat, s.heap.size ≤ q → A q := fun q h => by rw [← hAe]; exact Or.inr h
  have hS : va_S A s.heap s.heap [] := va_S.rf
  have hl := lv_entry ([.ref hm, .int a0, .int a1, .int a2]) (n := 4) (Nat.le_of_ble_eq_true rfl)
  rw [lg_entry_eq]
  generalize (lg_sl ([.ref hm, .int a0, .int a1, .int a2]) ++ List.replicate (4 - (lg_sl ([.ref hm, .int a0, .int a1, .int a2])).length) Slot.unset).toArray = ls at hl ⊢
  have hl : lv_has ls 4 [(0, .ref hm), (1, .int a0), (2, .int a1), (3, .int a2)] := hl
  unfold f_X5_setSink at hf
  refine lv_aload_n hx hb dX5_setSink_0 rfl (lv_at hl 0 rfl) ?_
  refine lv_iconst (v := 0) hx hb dX5_setSink_1 (by decide) ?_
  refine va_put (D := D) (ci := 4) (v := .int 0) (ty := .int) (C := RX5) (T := TX5) (N := 10) hx hb hts inX5_setSink_X5 tyX5 tyX5_ok nmX5 hown hK hP hD hS 0 rfl rfl 0 (by decide) (hts (.fieldLink RX5 41 "BondDeskModel" "thrown" "I") (by decide +kernel)) (fun _ h9 => h9) rfl (by decide +kernel) rfl rfl (Nat.le_of_ble_eq_true rfl) dX5_setSink_2 (fun H locs hP hD hS => ?_)
  have hP : va_P D vwCl [eM hm mh mo my mp (va_up M 0 (0 : Int32)) mc, eH cI mh mhol, eO cI mo mof, eY cI my mdy, eP cJ mp mpd] H := hP
  have hD : va_D A [eM hm mh mo my mp (va_up M 0 (0 : Int32)) mc, eH cI mh mhol, eO cI mo mof, eY cI my mdy, eP cJ mp mpd] := hD
  refine lv_aload_n hx hb dX5_setSink_5 rfl (lv_at hl 0 rfl) ?_
  refine lv_iload_n hx hb dX5_setSink_6 rfl (lv_at hl 1 rfl) ?_
  obtain ⟨v1, hv1, hf⟩ := ob hf
  refine cSz (W.runV (As := [.int a0]) (rest := []) ⟨hx, hb, hml, hown, hts⟩ (m_X5_isBond l D cI cJ cO hm mh mo my mp (va_up M 0 (0 : Int32)) mc mhol mof mdy mpd a0 v1 hv1) (cwV 1 hts gX5_setSink_X5_isBond rfl rfl rfl (by decide +kernel) ⟨(Nat.le_of_ble_eq_true rfl), (Nat.le_of_ble_eq_true rfl)⟩) ⟨pw_blind, va_recv hK hP (ci := 4) (q0 := 0) rfl rfl, fun U hU hW => ⟨rfl, pw_at hZ hS hP hK hU hW (Or.inr rfl) [0, 1, 2, 3, 4] rfl⟩⟩ rfl rfl hl.1 rfl (lv_room (Nat.le_of_ble_eq_true rfl)) dX5_setSink_7 ⟨(Nat.le_of_ble_eq_true rfl), (Nat.le_of_ble_eq_true rfl)⟩) (fun zv1 => ?_)
  refine lv_if_ne (tgt := 19) hx hb dX5_setSink_10 (by decide) (fun c2 => ?_) (fun c2 => ?_)
  · have hf := ie hf c2
    refine lv_iload_n hx hb dX5_setSink_19 rfl (lv_at hl 2 rfl) ?_
    obtain ⟨v3, hv3, hf⟩ := ob hf
    refine cSz (W.runS (As := [.int a1]) (rest := []) ⟨hx, hb, hml, hown, hts⟩ (m_X5_isDate l D cI cJ cO a1 v3 hv3) (va_cwS 1 hts gX5_setSink_X5_isDate rfl rfl rfl (by decide +kernel) ⟨(Nat.le_of_ble_eq_true rfl), (Nat.le_of_ble_eq_true rfl)⟩) ⟨pw_blind, fun U hU hW => ⟨rfl, pw_at hZ hS hP hK hU hW (Or.inr rfl) [] rfl⟩⟩ rfl rfl hl.1 rfl (lv_room (Nat.le_of_ble_eq_true rfl)) dX5_setSink_20 ⟨(Nat.le_of_ble_eq_true rfl), (Nat.le_of_ble_eq_true rfl)⟩) (fun zv3 => ?_)
    refine lv_if_eq (tgt := 37) hx hb dX5_setSink_23 (by decide) (fun c4 => ?_) (fun c4 => ?_)
    · have hf := it hf c4
      refine lv_aload_n hx hb dX5_setSink_37 rfl (lv_at hl 0 rfl) ?_
      refine lv_iconst (v := 2) hx hb dX5_setSink_38 (by decide) ?_
      obtain ⟨v5, hv5, hf⟩ := ob hf
      have hPc := hP.sub (ws' := [eM hm mh mo my mp (va_up M 0 (0 : Int32)) mc, eH cI mh mhol, eO cI mo mof, eY cI my mdy, eP cJ mp mpd]) [0, 1, 2, 3, 4] rfl
      have hDc := hD.sub (ws' := [eM hm mh mo my mp (va_up M 0 (0 : Int32)) mc, eH cI mh mhol, eO cI mo mof, eY cI my mdy, eP cJ mp mpd]) [0, 1, 2, 3, 4] (by decide) rfl
      have hFc := va_free (wc := [eM hm mh mo my mp (va_up M 0 (0 : Int32)) mc, eH cI mh mhol, eO cI mo mof, eY cI my mdy, eP cJ mp mpd]) hD hS hA [0, 1, 2, 3, 4] rfl
      refine va_calli (va_runV (As := [.int 2]) (rest := []) ⟨hx, hb, hml, hown, hts⟩ (m_X5_no l D cI cJ cO hm mh mo my mp (va_up M 0 (0 : Int32)) mc mhol mof mdy mpd H.size 2 v5 hv5) (cwV 1 hts gX5_setSink_X5_no rfl rfl rfl (by decide +kernel) ⟨(Nat.le_of_ble_eq_true rfl), (Nat.le_of_ble_eq_true rfl)⟩) ⟨mp_blind, va_recv hK hP (ci := 4) (q0 := 0) rfl rfl, fun U hU hW => ⟨rfl, mp_at hZ hS hPc hK hDc hFc hU hW (Or.inr rfl)⟩⟩ rfl rfl hl.1 rfl (lv_room (Nat.le_of_ble_eq_true rfl)) dX5_setSink_39 ⟨(Nat.le_of_ble_eq_true rfl), (Nat.le_of_ble_eq_true rfl)⟩) hS (fun q _ h => hFc q h) hFc (fun rv5 u t H1 locs ht9 hvm hw hBx hz1 hk1 hS => ?_)
      subst hw
      obtain ⟨hP1, hD1⟩ := hBx
      rw [ht9] at hP1
      obtain ⟨hP, hD⟩ := va_join (wr := []) (w1 := [eM hm mh mo my mp v5.2 mc, eH cI mh mhol, eO cI mo mof, eY cI my mdy, eP cJ mp mpd]) hP hD [0, 1, 2, 3, 4] [] rfl rfl (by decide) (by decide) hk1 hFc hP1 hD1
      have hP := hP.sub (ws' := [eM hm mh mo my mp v5.2 mc, eH cI mh mhol, eO cI mo mof, eY cI my mdy, eP cJ mp mpd]) [0, 1, 2, 3, 4] rfl
      have hD := hD.sub (ws' := [eM hm mh mo my mp v5.2 mc, eH cI mh mhol, eO cI mo mof, eY cI my mdy, eP cJ mp mpd]) [0, 1, 2, 3, 4] (by decide) rfl
      generalize H1 = H at hP hS ⊢
      refine W.widen (k := 0) (n := 0) (Nat.le_of_ble_eq_true rfl) (Nat.le_of_ble_eq_true rfl) ?_
      have e9 := Option.some.inj hf
      subst e9
      exact W.iret hx hb hr (fun t ht hW => ⟨⟨_, (), rfl, rfl, by rw [ht]; exact hP, hD⟩, hS.F ht⟩) hS.2.2 dX5_setSink_42
    · have hf := ie hf c4
      refine lv_iload_n hx hb dX5_setSink_26 rfl (lv_at hl 3 rfl) ?_
      refine lv_iconst (v := 0) hx hb dX5_setSink_27 (by decide) ?_
      refine lv_sipush (v := 5000) hx hb dX5_setSink_28 (by decide) ?_
      obtain ⟨v6, hv6, hf⟩ := ob hf
      refine cSz (W.runS (As := [.int a2, .int 0, .int 5000]) (rest := []) ⟨hx, hb, hml, hown, hts⟩ (m_X5_isIn l D cI cJ cO a2 0 5000 v6 hv6) (va_cwS 3 hts gX5_setSink_X5_isIn rfl rfl rfl (by decide +kernel) ⟨(Nat.le_of_ble_eq_true rfl), (Nat.le_of_ble_eq_true rfl)⟩) ⟨pw_blind, fun U hU hW => ⟨rfl, pw_at hZ hS hP hK hU hW (Or.inr rfl) [] rfl⟩⟩ rfl rfl hl.1 rfl (lv_room (Nat.le_of_ble_eq_true rfl)) dX5_setSink_31 ⟨(Nat.le_of_ble_eq_true rfl), (Nat.le_of_ble_eq_true rfl)⟩) (fun zv6 => ?_)
      refine lv_if_ne (tgt := 43) hx hb dX5_setSink_34 (by decide) (fun c7 => ?_) (fun c7 => ?_)
      · have hf := ie hf c7
        refine lv_aload_n hx hb dX5_setSink_43 rfl (lv_at hl 0 rfl) ?_
        refine lv_iload_n hx hb dX5_setSink_44 rfl (lv_at hl 1 rfl) ?_
        obtain ⟨v8, hv8, hf⟩ := ob hf
        refine cSz (W.runV (As := [.int a0]) (rest := []) ⟨hx, hb, hml, hown, hts⟩ (m_X5_isThere l D cI cJ cO hm mh mo my mp (va_up M 0 (0 : Int32)) mc mhol mof mdy mpd a0 v8 hv8) (cwV 1 hts gX5_setSink_X5_isThere rfl rfl rfl (by decide +kernel) ⟨(Nat.le_of_ble_eq_true rfl), (Nat.le_of_ble_eq_true rfl)⟩) ⟨pw_blind, va_recv hK hP (ci := 4) (q0 := 0) rfl rfl, fun U hU hW => ⟨rfl, pw_at hZ hS hP hK hU hW (Or.inr rfl) [0, 1, 2, 3, 4] rfl⟩⟩ rfl rfl hl.1 rfl (lv_room (Nat.le_of_ble_eq_true rfl)) dX5_setSink_45 ⟨(Nat.le_of_ble_eq_true rfl), (Nat.le_of_ble_eq_true rfl)⟩) (fun zv8 => ?_)
        refine lv_if_ne (tgt := 57) hx hb dX5_setSink_48 (by decide) (fun c9 => ?_) (fun c9 => ?_)
        · have hf := ie hf c9
          refine lv_aload_n hx hb dX5_setSink_57 rfl (lv_at hl 0 rfl) ?_
          refine va_get (D := D) (ci := 4) (v := .ref mo) (C := RX5) (T := TX5) (N := 10) hx hb hts inX5_setSink_X5 hown hK hP 0 rfl rfl 7 (by decide) (hts (.fieldLink RX5 31 "BondDeskModel" "of" "[I") (by decide +kernel)) (fun _ h9 => h9) rfl dX5_setSink_58 ?_
          refine lv_bipush (v := 14) hx hb dX5_setSink_61 (by decide) ?_
          refine lv_iload_n hx hb dX5_setSink_63 rfl (lv_at hl 1 rfl) ?_
          refine lv_imul hx hb dX5_setSink_64 ?_
          refine lv_bipush (v := 10) hx hb dX5_setSink_65 (by decide) ?_
          refine lv_iadd hx hb dX5_setSink_67 ?_
          refine lv_iload_n hx hb dX5_setSink_68 rfl (lv_at hl 2 rfl) ?_
          obtain ⟨v10, hv10, hf⟩ := ob hf
          refine cSi (W.runS (As := [.int a1]) (rest := [.int ((14 * a0) + 10), .ref mo]) ⟨hx, hb, hml, hown, hts⟩ (m_X5_number l D cI cJ cO a1 N v10 hv10) (va_cwS 1 hts gX5_setSink_X5_number rfl rfl rfl (by decide +kernel) ⟨(Nat.le_of_ble_eq_true rfl), (Nat.le_of_ble_eq_true rfl)⟩) ⟨pw_blind, fun U hU hW => ⟨rfl, pw_at hZ hS hP hK hU hW (Or.inr rfl) [] rfl⟩⟩ rfl rfl hl.1 rfl (lv_room (Nat.le_of_ble_eq_true rfl)) dX5_setSink_69 ⟨(Nat.le_of_ble_eq_true rfl), (Nat.le_of_ble_eq_true rfl)⟩) ?_
          obtain ⟨c11, hf⟩ := gd_s hf
          refine va_iast hx hb hK hP hD hS 2 0 rfl rfl c11 dX5_setSink_72 (fun H locs hP hD hS => ?_)
          obtain ⟨w12, ew12⟩ : ∃ z, z = upd mof ((14 * a0) + 10).toNatClampNeg v10 := ⟨_, rfl⟩
          have hf := bd_s hf ew12
          rw [← ew12] at hP hD
          have hP : va_P D vwCl [eM hm mh mo my mp (va_up M 0 (0 : Int32)) mc, eH cI mh mhol, eO cI mo w12, eY cI my mdy, eP cJ mp mpd] H := hP
          have hD : va_D A [eM hm mh mo my mp (va_up M 0 (0 : Int32)) mc, eH cI mh mhol, eO cI mo w12, eY cI my mdy, eP cJ mp mpd] := hD
          refine lv_aload_n hx hb dX5_setSink_73 rfl (lv_at hl 0 rfl) ?_
          refine va_get (D := D) (ci := 4) (v := .ref mo) (C := RX5) (T := TX5) (N := 10) hx hb hts inX5_setSink_X5 hown hK hP 0 rfl rfl 7 (by decide) (hts (.fieldLink RX5 31 "BondDeskModel" "of" "[I") (by decide +kernel)) (fun _ h9 => h9) rfl dX5_setSink_74 ?_
          refine lv_bipush (v := 14) hx hb dX5_setSink_77 (by decide) ?_
          refine lv_iload_n hx hb dX5_setSink_79 rfl (lv_at hl 1 rfl) ?_
          refine lv_imul hx hb dX5_setSink_80 ?_
          refine lv_bipush (v := 11) hx hb dX5_setSink_81 (by decide) ?_
          refine lv_iadd hx hb dX5_setSink_83 ?_
          refine lv_iload_n hx hb dX5_setSink_84 rfl (lv_at hl 3 rfl) ?_
          obtain ⟨c13, hf⟩ := gd_s hf
          refine va_iast hx hb hK hP hD hS 2 0 rfl rfl c13 dX5_setSink_85 (fun H locs hP hD hS => ?_)
          obtain ⟨w14, ew14⟩ : ∃ z, z = upd w12 ((14 * a0) + 11).toNatClampNeg a2 := ⟨_, rfl⟩
          have hf := bd_s hf ew14
          rw [← ew14] at hP hD
          have hP : va_P D vwCl [eM hm mh mo my mp (va_up M 0 (0 : Int32)) mc, eH cI mh mhol, eO cI mo w14, eY cI my mdy, eP cJ mp mpd] H := hP
          have hD : va_D A [eM hm mh mo my mp (va_up M 0 (0 : Int32)) mc, eH cI mh mhol, eO cI mo w14, eY cI my mdy, eP cJ mp mpd] := hD
          refine lv_aload_n hx hb dX5_setSink_86 rfl (lv_at hl 0 rfl) ?_
          refine lv_iload_n hx hb dX5_setSink_87 rfl (lv_at hl 1 rfl) ?_
          refine lv_aload_n hx hb dX5_setSink_88 rfl (lv_at hl 0 rfl) ?_
          refine lv_iload_n hx hb dX5_setSink_89 rfl (lv_at hl 1 rfl) ?_
          refine lv_bipush (v := 6) hx hb dX5_setSink_90 (by decide) ?_
          obtain ⟨v15, hv15, hf⟩ := ob hf
          refine cSi (W.runV (As := [.int a0, .int 6]) (rest := [.int a0, .ref hm]) ⟨hx, hb, hml, hown, hts⟩ (m_X5_own l D cI cJ cO hm mh mo my mp (va_up M 0 (0 : Int32)) mc mhol w14 mdy mpd a0 6 v15 hv15) (cwV 2 hts gX5_setSink_X5_own rfl rfl rfl (by decide +kernel) ⟨(Nat.le_of_ble_eq_true rfl), (Nat.le_of_ble_eq_true rfl)⟩) ⟨pw_blind, va_recv hK hP (ci := 4) (q0 := 0) rfl rfl, fun U hU hW => ⟨rfl, pw_at hZ hS hP hK hU hW (Or.inr rfl) [0, 1, 2, 3, 4] rfl⟩⟩ rfl rfl hl.1 rfl (lv_room (Nat.le_of_ble_eq_true rfl)) dX5_setSink_92 ⟨(Nat.le_of_ble_eq_true rfl), (Nat.le_of_ble_eq_true rfl)⟩) ?_
          refine lv_iconst (v := 1) hx hb dX5_setSink_95 (by decide) ?_
          refine lv_isub hx hb dX5_setSink_96 ?_
          obtain ⟨v16, hv16, hf⟩ := ob hf
          refine cSi (W.runV (As := [.int a0, .int (v15 - 1)]) (rest := []) ⟨hx, hb, hml, hown, hts⟩ (m_X5_leftBehind l D cI cJ cO hm mh mo my mp (va_up M 0 (0 : Int32)) mc mhol w14 mdy mpd a0 (v15 - 1) N v16 hv16) (cwV 2 hts gX5_setSink_X5_leftBehind rfl rfl rfl (by decide +kernel) ⟨(Nat.le_of_ble_eq_true rfl), (Nat.le_of_ble_eq_true rfl)⟩) ⟨pw_blind, va_recv hK hP (ci := 4) (q0 := 0) rfl rfl, fun U hU hW => ⟨rfl, pw_at hZ hS hP hK hU hW (Or.inr rfl) [0, 1, 2, 3, 4] rfl⟩⟩ rfl rfl hl.1 rfl (lv_room (Nat.le_of_ble_eq_true rfl)) dX5_setSink_97 ⟨(Nat.le_of_ble_eq_true rfl), (Nat.le_of_ble_eq_true rfl)⟩) ?_
          refine W.widen (k := 0) (n := 0) (Nat.le_of_ble_eq_true rfl) (Nat.le_of_ble_eq_true rfl) ?_
          have e9 := Option.some.inj hf
          subst e9
          exact W.iret hx hb hr (fun t ht hW => ⟨⟨_, (), rfl, rfl, by rw [ht]; exact hP, hD⟩, hS.F ht⟩) hS.2.2 dX5_setSink_100
        · have hf := it hf c9
          refine lv_aload_n hx hb dX5_setSink_51 rfl (lv_at hl 0 rfl) ?_
          refine lv_iconst (v := 3) hx hb dX5_setSink_52 (by decide) ?_
          obtain ⟨v17, hv17, hf⟩ := ob hf
          have hPc := hP.sub (ws' := [eM hm mh mo my mp (va_up M 0 (0 : Int32)) mc, eH cI mh mhol, eO cI mo mof, eY cI my mdy, eP cJ mp mpd]) [0, 1, 2, 3, 4] rfl
          have hDc := hD.sub (ws' := [eM hm mh mo my mp (va_up M 0 (0 : Int32)) mc, eH cI mh mhol, eO cI mo mof, eY cI my mdy, eP cJ mp mpd]) [0, 1, 2, 3, 4] (by decide) rfl
          have hFc := va_free (wc := [eM hm mh mo my mp (va_up M 0 (0 : Int32)) mc, eH cI mh mhol, eO cI mo mof, eY cI my mdy, eP cJ mp mpd]) hD hS hA [0, 1, 2, 3, 4] rfl
          refine va_calli (va_runV (As := [.int 3]) (rest := []) ⟨hx, hb, hml, hown, hts⟩ (m_X5_no l D cI cJ cO hm mh mo my mp (va_up M 0 (0 : Int32)) mc mhol mof mdy mpd H.size 3 v17 hv17) (cwV 1 hts gX5_setSink_X5_no rfl rfl rfl (by decide +kernel) ⟨(Nat.le_of_ble_eq_true rfl), (Nat.le_of_ble_eq_true rfl)⟩) ⟨mp_blind, va_recv hK hP (ci := 4) (q0 := 0) rfl rfl, fun U hU hW => ⟨rfl, mp_at hZ hS hPc hK hDc hFc hU hW (Or.inr rfl)⟩⟩ rfl rfl hl.1 rfl (lv_room (Nat.le_of_ble_eq_true rfl)) dX5_setSink_53 ⟨(Nat.le_of_ble_eq_true rfl), (Nat.le_of_ble_eq_true rfl)⟩) hS (fun q _ h => hFc q h) hFc (fun rv17 u t H1 locs ht9 hvm hw hBx hz1 hk1 hS => ?_)
          subst hw
          obtain ⟨hP1, hD1⟩ := hBx
          rw [ht9] at hP1
          obtain ⟨hP, hD⟩ := va_join (wr := []) (w1 := [eM hm mh mo my mp v17.2 mc, eH cI mh mhol, eO cI mo mof, eY cI my mdy, eP cJ mp mpd]) hP hD [0, 1, 2, 3, 4] [] rfl rfl (by decide) (by decide) hk1 hFc hP1 hD1
          have hP := hP.sub (ws' := [eM hm mh mo my mp v17.2 mc, eH cI mh mhol, eO cI mo mof, eY cI my mdy, eP cJ mp mpd]) [0, 1, 2, 3, 4] rfl
          have hD := hD.sub (ws' := [eM hm mh mo my mp v17.2 mc, eH cI mh mhol, eO cI mo mof, eY cI my mdy, eP cJ mp mpd]) [0, 1, 2, 3, 4] (by decide) rfl
          generalize H1 = H at hP hS ⊢
          refine W.widen (k := 0) (n := 0) (Nat.le_of_ble_eq_true rfl) (Nat.le_of_ble_eq_true rfl) ?_
          have e9 := Option.some.inj hf
          subst e9
          exact W.iret hx hb hr (fun t ht hW => ⟨⟨_, (), rfl, rfl, by rw [ht]; exact hP, hD⟩, hS.F ht⟩) hS.2.2 dX5_setSink_56
      · have hf := it hf c7
        refine lv_aload_n hx hb dX5_setSink_37 rfl (lv_at hl 0 rfl) ?_
        refine lv_iconst (v := 2) hx hb dX5_setSink_38 (by decide) ?_
        obtain ⟨v18, hv18, hf⟩ := ob hf
        have hPc := hP.sub (ws' := [eM hm mh mo my mp (va_up M 0 (0 : Int32)) mc, eH cI mh mhol, eO cI mo mof, eY cI my mdy, eP cJ mp mpd]) [0, 1, 2, 3, 4] rfl
        have hDc := hD.sub (ws' := [eM hm mh mo my mp (va_up M 0 (0 : Int32)) mc, eH cI mh mhol, eO cI mo mof, eY cI my mdy, eP cJ mp mpd]) [0, 1, 2, 3, 4] (by decide) rfl
        have hFc := va_free (wc := [eM hm mh mo my mp (va_up M 0 (0 : Int32)) mc, eH cI mh mhol, eO cI mo mof, eY cI my mdy, eP cJ mp mpd]) hD hS hA [0, 1, 2, 3, 4] rfl
        refine va_calli (va_runV (As := [.int 2]) (rest := []) ⟨hx, hb, hml, hown, hts⟩ (m_X5_no l D cI cJ cO hm mh mo my mp (va_up M 0 (0 : Int32)) mc mhol mof mdy mpd H.size 2 v18 hv18) (cwV 1 hts gX5_setSink_X5_no rfl rfl rfl (by decide +kernel) ⟨(Nat.le_of_ble_eq_true rfl), (Nat.le_of_ble_eq_true rfl)⟩) ⟨mp_blind, va_recv hK hP (ci := 4) (q0 := 0) rfl rfl, fun U hU hW => ⟨rfl, mp_at hZ hS hPc hK hDc hFc hU hW (Or.inr rfl)⟩⟩ rfl rfl hl.1 rfl (lv_room (Nat.le_of_ble_eq_true rfl)) dX5_setSink_39 ⟨(Nat.le_of_ble_eq_true rfl), (Nat.le_of_ble_eq_true rfl)⟩) hS (fun q _ h => hFc q h) hFc (fun rv18 u t H1 locs ht9 hvm hw hBx hz1 hk1 hS => ?_)
        subst hw
        obtain ⟨hP1, hD1⟩ := hBx
        rw [ht9] at hP1
        obtain ⟨hP, hD⟩ := va_join (wr := []) (w1 := [eM hm mh mo my mp v18.2 mc, eH cI mh mhol, eO cI mo mof, eY cI my mdy, eP cJ mp mpd]) hP hD [0, 1, 2, 3, 4] [] rfl rfl (by decide) (by decide) hk1 hFc hP1 hD1
        have hP := hP.sub (ws' := [eM hm mh mo my mp v18.2 mc, eH cI mh mhol, eO cI mo mof, eY cI my mdy, eP cJ mp mpd]) [0, 1, 2, 3, 4] rfl
        have hD := hD.sub (ws' := [eM hm mh mo my mp v18.2 mc, eH cI mh mhol, eO cI mo mof, eY cI my mdy, eP cJ mp mpd]) [0, 1, 2, 3, 4] (by decide) rfl
        generalize H1 = H at hP hS ⊢
        refine W.widen (k := 0) (n := 0) (Nat.le_of_ble_eq_true rfl) (Nat.le_of_ble_eq_true rfl) ?_
        have e9 := Option.some.inj hf
        subst e9
        exact W.iret hx hb hr (fun t ht hW => ⟨⟨_, (), rfl, rfl, by rw [ht]; exact hP, hD⟩, hS.F ht⟩) hS.2.2 dX5_setSink_42
  · have hf := it hf c2
    refine lv_aload_n hx hb dX5_setSink_13 rfl (lv_at hl 0 rfl) ?_
    refine lv_iconst (v := 1) hx hb dX5_setSink_14 (by decide) ?_
    obtain ⟨v19, hv19, hf⟩ := ob hf
    have hPc := hP.sub (ws' := [eM hm mh mo my mp (va_up M 0 (0 : Int32)) mc, eH cI mh mhol, eO cI mo mof, eY cI my mdy, eP cJ mp mpd]) [0, 1, 2, 3, 4] rfl
    have hDc := hD.sub (ws' := [eM hm mh mo my mp (va_up M 0 (0 : Int32)) mc, eH cI mh mhol, eO cI mo mof, eY cI my mdy, eP cJ mp mpd]) [0, 1, 2, 3, 4] (by decide) rfl
    have hFc := va_free (wc := [eM hm mh mo my mp (va_up M 0 (0 : Int32)) mc, eH cI mh mhol, eO cI mo mof, eY cI my mdy, eP cJ mp mpd]) hD hS hA [0, 1, 2, 3, 4] rfl
    refine va_calli (va_runV (As := [.int 1]) (rest := []) ⟨hx, hb, hml, hown, hts⟩ (m_X5_no l D cI cJ cO hm mh mo my mp (va_up M 0 (0 : Int32)) mc mhol mof mdy mpd H.size 1 v19 hv19) (cwV 1 hts gX5_setSink_X5_no rfl rfl rfl (by decide +kernel) ⟨(Nat.le_of_ble_eq_true rfl), (Nat.le_of_ble_eq_true rfl)⟩) ⟨mp_blind, va_recv hK hP (ci := 4) (q0 := 0) rfl rfl, fun U hU hW => ⟨rfl, mp_at hZ hS hPc hK hDc hFc hU hW (Or.inr rfl)⟩⟩ rfl rfl hl.1 rfl (lv_room (Nat.le_of_ble_eq_true rfl)) dX5_setSink_15 ⟨(Nat.le_of_ble_eq_true rfl), (Nat.le_of_ble_eq_true rfl)⟩) hS (fun q _ h => hFc q h) hFc (fun rv19 u t H1 locs ht9 hvm hw hBx hz1 hk1 hS => ?_)
    subst hw
    obtain ⟨hP1, hD1⟩ := hBx
    rw [ht9] at hP1
    obtain ⟨hP, hD⟩ := va_join (wr := []) (w1 := [eM hm mh mo my mp v19.2 mc, eH cI mh mhol, eO cI mo mof, eY cI my mdy, eP cJ mp mpd]) hP hD [0, 1, 2, 3, 4] [] rfl rfl (by decide) (by decide) hk1 hFc hP1 hD1
    have hP := hP.sub (ws' := [eM hm mh mo my mp v19.2 mc, eH cI mh mhol, eO cI mo mof, eY cI my mdy, eP cJ mp mpd]) [0, 1, 2, 3, 4] rfl
    have hD := hD.sub (ws' := [eM hm mh mo my mp v19.2 mc, eH cI mh mhol, eO cI mo mof, eY cI my mdy, eP cJ mp mpd]) [0, 1, 2, 3, 4] (by decide) rfl
    generalize H1 = H at hP hS ⊢
    refine W.widen (k := 0) (n := 0) (Nat.le_of_ble_eq_true rfl) (Nat.le_of_ble_eq_true rfl) ?_
    have e9 := Option.some.inj hf
    subst e9
    exact W.iret hx hb hr (fun t ht hW => ⟨⟨_, (), rfl, rfl, by rw [ht]; exact hP, hD⟩, hS.F ht⟩) hS.2.2 dX5_setSink_18
theorem inX5_setCall_X5 : ∀ w ∈ wsX50, w ∈ wsX5_setCall := by decide +kernel
set_option maxHeartbeats 4000000 in
set_option maxRecDepth 100000 in
theorem m_X5_setCall (l : Launch) (D : va_G) (cI cJ cO : ClassId) (hm : Nat) (mh : Nat) (mo : Nat) (my : Nat) (mp : Nat) (M : Nat → Int32) (mc : Int64) (mhol : Nat → Int32) (mof : Nat → Int32) (mdy : Nat → Int32) (mpd : Nat → Int64) (sz : Nat) (a0 : Int32) (a1 : Int32) (a2 : Int32) (N : Nat) (r : Int32 × (Nat → Int32) × (Nat → Int32)) (hf : f_X5_setCall N M mof mdy a0 a1 a2 = some r) : Met l yX5_setCall wsX5_setCall ({ frames := 3, cells := 0, slots := 0, locals := 66 }) (va_Pc [.ref hm, .int a0, .int a1, .int a2] (mP D (ty3 cI cJ cO) none [eM hm mh mo my mp M mc, eH cI mh mhol, eO cI mo mof, eY cI my mdy, eP cJ mp mpd] sz)) (mQi D (va_A [eM hm mh mo my mp M mc, eH cI mh mhol, eO cI mo mof, eY cI my mdy, eP cJ mp mpd] sz) r.1 [eM hm mh mo my mp r.2.1 mc, eH cI mh mhol, eO cI mo r.2.2, eY cI my mdy, eP cJ mp mpd]) 0 0 (va_A [eM hm mh mo my mp M mc, eH cI mh mhol, eO cI mo mof, eY cI my mdy, eP cJ mp mpd] sz) := by
  refine Met.ofW (cc := cX5_setCall) (maxL := 4) (ret := (some .int)) (by decide) rfl ?_
  intro p e s m args below meth c s₁ Bd hml hv
  obtain ⟨rfl, hsz, hZ, hP, hK, hD0⟩ := hv
  have hx := Bd.exec
  have hb := Bd.bytes
  have hr := Bd.returns
  have hts := atoms_spec (ws := wsX5_setCall) Bd.pre
  have hown : s.vm.findClass RX5 = some m.cls := findClass_of_methodNamed Bd.named
  have hlocks := Bd.notSynchronized
  subst hsz
  have hD := hD0.self (sz := s.heap.size)
  generalize hAe : va_A [eM hm mh mo my mp M mc, eH cI mh mhol, eO cI mo mof, eY cI my mdy, eP cJ mp mpd] s.heap.size = A at hD hZ ⊢
  have hA : ∀ q : Nat, s.heap.size ≤ q → A q := fun q h => by rw [← hAe]; exact Or.inr h
  have hS : va_S A s.heap s.heap [] := va_S.rf
  have hl := lv_entry ([.ref hm, .int a0, .int a1, .int a2]) (n := 4) (Nat.le_of_ble_eq_true rfl)
  rw [lg_entry_eq]
  generalize (lg_sl ([.ref hm, .int a0, .int a1, .int a2]) ++ List.replicate (4 - (lg_sl ([.ref hm, .int a0, .int a1, .int a2])).length) Slot.unset).toArray = ls at hl ⊢
  have hl : lv_has ls 4 [(0, .ref hm), (1, .int a0), (2, .int a1), (3, .int a2)] := hl
  unfold f_X5_setCall at hf
  refine lv_aload_n hx hb dX5_setCall_0 rfl (lv_at hl 0 rfl) ?_
  refine lv_iconst (v := 0) hx hb dX5_setCall_1 (by decide) ?_
  refine va_put (D := D) (ci := 4) (v := .int 0) (ty := .int) (C := RX5) (T := TX5) (N := 10) hx hb hts inX5_setCall_X5 tyX5 tyX5_ok nmX5 hown hK hP hD hS 0 rfl rfl 0 (by decide) (hts (.fieldLink RX5 41 "BondDeskModel" "thrown" "I") (by decide +kernel)) (fun _ h9 => h9) rfl (by decide +kernel) rfl rfl (Nat.le_of_ble_eq_true rfl) dX5_setCall_2 (fun H locs hP hD hS => ?_)
  have hP : va_P D vwCl [eM hm mh mo my mp (va_up M 0 (0 : Int32)) mc, eH cI mh mhol, eO cI mo mof, eY cI my mdy, eP cJ mp mpd] H := hP
  have hD : va_D A [eM hm mh mo my mp (va_up M 0 (0 : Int32)) mc, eH cI mh mhol, eO cI mo mof, eY cI my mdy, eP cJ mp mpd] := hD
  refine lv_aload_n hx hb dX5_setCall_5 rfl (lv_at hl 0 rfl) ?_
  refine lv_iload_n hx hb dX5_setCall_6 rfl (lv_at hl 1 rfl) ?_
  obtain ⟨v1, hv1, hf⟩ := ob hf
  refine cSz (W.runV (As := [.int a0]) (rest := []) ⟨hx, hb, hml, hown, hts⟩ (m_X5_isBond l D cI cJ cO hm mh mo my mp (va_up M 0 (0 : Int32)) mc mhol mof mdy mpd a0 v1 hv1) (cwV 1 hts gX5_setCall_X5_isBond rfl rfl rfl (by decide +kernel) ⟨(Nat.le_of_ble_eq_true rfl), (Nat.le_of_ble_eq_true rfl)⟩) ⟨pw_blind, va_recv hK hP (ci := 4) (q0 := 0) rfl rfl, fun U hU hW => ⟨rfl, pw_at hZ hS hP hK hU hW (Or.inr rfl) [0, 1, 2, 3, 4] rfl⟩⟩ rfl rfl hl.1 rfl (lv_room (Nat.le_of_ble_eq_true rfl)) dX5_setCall_7 ⟨(Nat.le_of_ble_eq_true rfl), (Nat.le_of_ble_eq_true rfl)⟩) (fun zv1 => ?_)
  refine lv_if_ne (tgt := 19) hx hb dX5_setCall_10 (by decide) (fun c2 => ?_) (fun c2 => ?_)
  · have hf := ie hf c2
    refine lv_iload_n hx hb dX5_setCall_19 rfl (lv_at hl 2 rfl) ?_
    obtain ⟨v3, hv3, hf⟩ := ob hf
    refine cSz (W.runS (As := [.int a1]) (rest := []) ⟨hx, hb, hml, hown, hts⟩ (m_X5_isDate l D cI cJ cO a1 v3 hv3) (va_cwS 1 hts gX5_setCall_X5_isDate rfl rfl rfl (by decide +kernel) ⟨(Nat.le_of_ble_eq_true rfl), (Nat.le_of_ble_eq_true rfl)⟩) ⟨pw_blind, fun U hU hW => ⟨rfl, pw_at hZ hS hP hK hU hW (Or.inr rfl) [] rfl⟩⟩ rfl rfl hl.1 rfl (lv_room (Nat.le_of_ble_eq_true rfl)) dX5_setCall_20 ⟨(Nat.le_of_ble_eq_true rfl), (Nat.le_of_ble_eq_true rfl)⟩) (fun zv3 => ?_)
    refine lv_if_eq (tgt := 43) hx hb dX5_setCall_23 (by decide) (fun c4 => ?_) (fun c4 => ?_)
    · have hf := it hf c4
      refine lv_aload_n hx hb dX5_setCall_43 rfl (lv_at hl 0 rfl) ?_
      refine lv_iconst (v := 2) hx hb dX5_setCall_44 (by decide) ?_
      obtain ⟨v5, hv5, hf⟩ := ob hf
      have hPc := hP.sub (ws' := [eM hm mh mo my mp (va_up M 0 (0 : Int32)) mc, eH cI mh mhol, eO cI mo mof, eY cI my mdy, eP cJ mp mpd]) [0, 1, 2, 3, 4] rfl
      have hDc := hD.sub (ws' := [eM hm mh mo my mp (va_up M 0 (0 : Int32)) mc, eH cI mh mhol, eO cI mo mof, eY cI my mdy, eP cJ mp mpd]) [0, 1, 2, 3, 4] (by decide) rfl
      have hFc := va_free (wc := [eM hm mh mo my mp (va_up M 0 (0 : Int32)) mc, eH cI mh mhol, eO cI mo mof, eY cI my mdy, eP cJ mp mpd]) hD hS hA [0, 1, 2, 3, 4] rfl
      refine va_calli (va_runV (As := [.int 2]) (rest := []) ⟨hx, hb, hml, hown, hts⟩ (m_X5_no l D cI cJ cO hm mh mo my mp (va_up M 0 (0 : Int32)) mc mhol mof mdy mpd H.size 2 v5 hv5) (cwV 1 hts gX5_setCall_X5_no rfl rfl rfl (by decide +kernel) ⟨(Nat.le_of_ble_eq_true rfl), (Nat.le_of_ble_eq_true rfl)⟩) ⟨mp_blind, va_recv hK hP (ci := 4) (q0 := 0) rfl rfl, fun U hU hW => ⟨rfl, mp_at hZ hS hPc hK hDc hFc hU hW (Or.inr rfl)⟩⟩ rfl rfl hl.1 rfl (lv_room (Nat.le_of_ble_eq_true rfl)) dX5_setCall_45 ⟨(Nat.le_of_ble_eq_true rfl), (Nat.le_of_ble_eq_true rfl)⟩) hS (fun q _ h => hFc q h) hFc (fun rv5 u t H1 locs ht9 hvm hw hBx hz1 hk1 hS => ?_)
      subst hw
      obtain ⟨hP1, hD1⟩ := hBx
      rw [ht9] at hP1
      obtain ⟨hP, hD⟩ := va_join (wr := []) (w1 := [eM hm mh mo my mp v5.2 mc, eH cI mh mhol, eO cI mo mof, eY cI my mdy, eP cJ mp mpd]) hP hD [0, 1, 2, 3, 4] [] rfl rfl (by decide) (by decide) hk1 hFc hP1 hD1
      have hP := hP.sub (ws' := [eM hm mh mo my mp v5.2 mc, eH cI mh mhol, eO cI mo mof, eY cI my mdy, eP cJ mp mpd]) [0, 1, 2, 3, 4] rfl
      have hD := hD.sub (ws' := [eM hm mh mo my mp v5.2 mc, eH cI mh mhol, eO cI mo mof, eY cI my mdy, eP cJ mp mpd]) [0, 1, 2, 3, 4] (by decide) rfl
      generalize H1 = H at hP hS ⊢
      refine W.widen (k := 0) (n := 0) (Nat.le_of_ble_eq_true rfl) (Nat.le_of_ble_eq_true rfl) ?_
      have e9 := Option.some.inj hf
      subst e9
      exact W.iret hx hb hr (fun t ht hW => ⟨⟨_, (), rfl, rfl, by rw [ht]; exact hP, hD⟩, hS.F ht⟩) hS.2.2 dX5_setCall_48
    · have hf := ie hf c4
      refine lv_iload_n hx hb dX5_setCall_26 rfl (lv_at hl 3 rfl) ?_
      obtain ⟨K6, hK6, hf⟩ := jn_s hf
      have JK6 : ∀  (ls : Array Slot), lv_has ls 4 [(0, .ref hm), (1, .int a0), (2, .int a1), (3, .int a2)] → K6 () = some r → W p l e (headSpec wsX5_setCall ({ frames := 3, cells := 0, slots := 0, locals := 66 })).room s m ([.ref hm, .int a0, .int a1, .int a2] : List Value).toArray below meth c H locs 0 0 (MQ below (mQi D A r.1 [eM hm mh mo my mp r.2.1 mc, eH cI mh mhol, eO cI mo r.2.2, eY cI my mdy, eP cJ mp mpd]) ([.ref hm, .int a0, .int a1, .int a2] : List Value).toArray s 0 0 A) (F0 m 49 ls []) := by
        intro  ls hl hf
        rw [hK6] at hf
        refine lv_aload_n hx hb dX5_setCall_49 rfl (lv_at hl 0 rfl) ?_
        refine lv_iload_n hx hb dX5_setCall_50 rfl (lv_at hl 1 rfl) ?_
        obtain ⟨v7, hv7, hf⟩ := ob hf
        refine cSz (W.runV (As := [.int a0]) (rest := []) ⟨hx, hb, hml, hown, hts⟩ (m_X5_isThere l D cI cJ cO hm mh mo my mp (va_up M 0 (0 : Int32)) mc mhol mof mdy mpd a0 v7 hv7) (cwV 1 hts gX5_setCall_X5_isThere rfl rfl rfl (by decide +kernel) ⟨(Nat.le_of_ble_eq_true rfl), (Nat.le_of_ble_eq_true rfl)⟩) ⟨pw_blind, va_recv hK hP (ci := 4) (q0 := 0) rfl rfl, fun U hU hW => ⟨rfl, pw_at hZ hS hP hK hU hW (Or.inr rfl) [0, 1, 2, 3, 4] rfl⟩⟩ rfl rfl hl.1 rfl (lv_room (Nat.le_of_ble_eq_true rfl)) dX5_setCall_51 ⟨(Nat.le_of_ble_eq_true rfl), (Nat.le_of_ble_eq_true rfl)⟩) (fun zv7 => ?_)
        refine lv_if_ne (tgt := 63) hx hb dX5_setCall_54 (by decide) (fun c8 => ?_) (fun c8 => ?_)
        · have hf := ie hf c8
          refine lv_aload_n hx hb dX5_setCall_63 rfl (lv_at hl 0 rfl) ?_
          refine va_get (D := D) (ci := 4) (v := .ref mo) (C := RX5) (T := TX5) (N := 10) hx hb hts inX5_setCall_X5 hown hK hP 0 rfl rfl 7 (by decide) (hts (.fieldLink RX5 31 "BondDeskModel" "of" "[I") (by decide +kernel)) (fun _ h9 => h9) rfl dX5_setCall_64 ?_
          refine lv_bipush (v := 14) hx hb dX5_setCall_67 (by decide) ?_
          refine lv_iload_n hx hb dX5_setCall_69 rfl (lv_at hl 1 rfl) ?_
          refine lv_imul hx hb dX5_setCall_70 ?_
          refine lv_bipush (v := 12) hx hb dX5_setCall_71 (by decide) ?_
          refine lv_iadd hx hb dX5_setCall_73 ?_
          refine lv_iload_n hx hb dX5_setCall_74 rfl (lv_at hl 2 rfl) ?_
          obtain ⟨v9, hv9, hf⟩ := ob hf
          refine cSi (W.runS (As := [.int a1]) (rest := [.int ((14 * a0) + 12), .ref mo]) ⟨hx, hb, hml, hown, hts⟩ (m_X5_number l D cI cJ cO a1 N v9 hv9) (va_cwS 1 hts gX5_setCall_X5_number rfl rfl rfl (by decide +kernel) ⟨(Nat.le_of_ble_eq_true rfl), (Nat.le_of_ble_eq_true rfl)⟩) ⟨pw_blind, fun U hU hW => ⟨rfl, pw_at hZ hS hP hK hU hW (Or.inr rfl) [] rfl⟩⟩ rfl rfl hl.1 rfl (lv_room (Nat.le_of_ble_eq_true rfl)) dX5_setCall_75 ⟨(Nat.le_of_ble_eq_true rfl), (Nat.le_of_ble_eq_true rfl)⟩) ?_
          obtain ⟨c10, hf⟩ := gd_s hf
          refine va_iast hx hb hK hP hD hS 2 0 rfl rfl c10 dX5_setCall_78 (fun H locs hP hD hS => ?_)
          obtain ⟨w11, ew11⟩ : ∃ z, z = upd mof ((14 * a0) + 12).toNatClampNeg v9 := ⟨_, rfl⟩
          have hf := bd_s hf ew11
          rw [← ew11] at hP hD
          have hP : va_P D vwCl [eM hm mh mo my mp (va_up M 0 (0 : Int32)) mc, eH cI mh mhol, eO cI mo w11, eY cI my mdy, eP cJ mp mpd] H := hP
          have hD : va_D A [eM hm mh mo my mp (va_up M 0 (0 : Int32)) mc, eH cI mh mhol, eO cI mo w11, eY cI my mdy, eP cJ mp mpd] := hD
          refine lv_aload_n hx hb dX5_setCall_79 rfl (lv_at hl 0 rfl) ?_
          refine va_get (D := D) (ci := 4) (v := .ref mo) (C := RX5) (T := TX5) (N := 10) hx hb hts inX5_setCall_X5 hown hK hP 0 rfl rfl 7 (by decide) (hts (.fieldLink RX5 31 "BondDeskModel" "of" "[I") (by decide +kernel)) (fun _ h9 => h9) rfl dX5_setCall_80 ?_
          refine lv_bipush (v := 14) hx hb dX5_setCall_83 (by decide) ?_
          refine lv_iload_n hx hb dX5_setCall_85 rfl (lv_at hl 1 rfl) ?_
          refine lv_imul hx hb dX5_setCall_86 ?_
          refine lv_bipush (v := 13) hx hb dX5_setCall_87 (by decide) ?_
          refine lv_iadd hx hb dX5_setCall_89 ?_
          refine lv_iload_n hx hb dX5_setCall_90 rfl (lv_at hl 3 rfl) ?_
          obtain ⟨c12, hf⟩ := gd_s hf
          refine va_iast hx hb hK hP hD hS 2 0 rfl rfl c12 dX5_setCall_91 (fun H locs hP hD hS => ?_)
          obtain ⟨w13, ew13⟩ : ∃ z, z = upd w11 ((14 * a0) + 13).toNatClampNeg a2 := ⟨_, rfl⟩
          have hf := bd_s hf ew13
          rw [← ew13] at hP hD
          have hP : va_P D vwCl [eM hm mh mo my mp (va_up M 0 (0 : Int32)) mc, eH cI mh mhol, eO cI mo w13, eY cI my mdy, eP cJ mp mpd] H := hP
          have hD : va_D A [eM hm mh mo my mp (va_up M 0 (0 : Int32)) mc, eH cI mh mhol, eO cI mo w13, eY cI my mdy, eP cJ mp mpd] := hD
          refine lv_aload_n hx hb dX5_setCall_92 rfl (lv_at hl 0 rfl) ?_
          refine lv_iload_n hx hb dX5_setCall_93 rfl (lv_at hl 1 rfl) ?_
          obtain ⟨v14, hv14, hf⟩ := ob hf
          refine cSi (W.runV (As := [.int a0]) (rest := []) ⟨hx, hb, hml, hown, hts⟩ (m_X5_firstCall l D cI cJ cO hm mh mo my mp (va_up M 0 (0 : Int32)) mc mhol w13 mdy mpd a0 N v14 hv14) (cwV 1 hts gX5_setCall_X5_firstCall rfl rfl rfl (by decide +kernel) ⟨(Nat.le_of_ble_eq_true rfl), (Nat.le_of_ble_eq_true rfl)⟩) ⟨pw_blind, va_recv hK hP (ci := 4) (q0 := 0) rfl rfl, fun U hU hW => ⟨rfl, pw_at hZ hS hP hK hU hW (Or.inr rfl) [0, 1, 2, 3, 4] rfl⟩⟩ rfl rfl hl.1 rfl (lv_room (Nat.le_of_ble_eq_true rfl)) dX5_setCall_94 ⟨(Nat.le_of_ble_eq_true rfl), (Nat.le_of_ble_eq_true rfl)⟩) ?_
          refine W.widen (k := 0) (n := 0) (Nat.le_of_ble_eq_true rfl) (Nat.le_of_ble_eq_true rfl) ?_
          have e9 := Option.some.inj hf
          subst e9
          exact W.iret hx hb hr (fun t ht hW => ⟨⟨_, (), rfl, rfl, by rw [ht]; exact hP, hD⟩, hS.F ht⟩) hS.2.2 dX5_setCall_97
        · have hf := it hf c8
          refine lv_aload_n hx hb dX5_setCall_57 rfl (lv_at hl 0 rfl) ?_
          refine lv_iconst (v := 3) hx hb dX5_setCall_58 (by decide) ?_
          obtain ⟨v15, hv15, hf⟩ := ob hf
          have hPc := hP.sub (ws' := [eM hm mh mo my mp (va_up M 0 (0 : Int32)) mc, eH cI mh mhol, eO cI mo mof, eY cI my mdy, eP cJ mp mpd]) [0, 1, 2, 3, 4] rfl
          have hDc := hD.sub (ws' := [eM hm mh mo my mp (va_up M 0 (0 : Int32)) mc, eH cI mh mhol, eO cI mo mof, eY cI my mdy, eP cJ mp mpd]) [0, 1, 2, 3, 4] (by decide) rfl
          have hFc := va_free (wc := [eM hm mh mo my mp (va_up M 0 (0 : Int32)) mc, eH cI mh mhol, eO cI mo mof, eY cI my mdy, eP cJ mp mpd]) hD hS hA [0, 1, 2, 3, 4] rfl
          refine va_calli (va_runV (As := [.int 3]) (rest := []) ⟨hx, hb, hml, hown, hts⟩ (m_X5_no l D cI cJ cO hm mh mo my mp (va_up M 0 (0 : Int32)) mc mhol mof mdy mpd H.size 3 v15 hv15) (cwV 1 hts gX5_setCall_X5_no rfl rfl rfl (by decide +kernel) ⟨(Nat.le_of_ble_eq_true rfl), (Nat.le_of_ble_eq_true rfl)⟩) ⟨mp_blind, va_recv hK hP (ci := 4) (q0 := 0) rfl rfl, fun U hU hW => ⟨rfl, mp_at hZ hS hPc hK hDc hFc hU hW (Or.inr rfl)⟩⟩ rfl rfl hl.1 rfl (lv_room (Nat.le_of_ble_eq_true rfl)) dX5_setCall_59 ⟨(Nat.le_of_ble_eq_true rfl), (Nat.le_of_ble_eq_true rfl)⟩) hS (fun q _ h => hFc q h) hFc (fun rv15 u t H1 locs ht9 hvm hw hBx hz1 hk1 hS => ?_)
          subst hw
          obtain ⟨hP1, hD1⟩ := hBx
          rw [ht9] at hP1
          obtain ⟨hP, hD⟩ := va_join (wr := []) (w1 := [eM hm mh mo my mp v15.2 mc, eH cI mh mhol, eO cI mo mof, eY cI my mdy, eP cJ mp mpd]) hP hD [0, 1, 2, 3, 4] [] rfl rfl (by decide) (by decide) hk1 hFc hP1 hD1
          have hP := hP.sub (ws' := [eM hm mh mo my mp v15.2 mc, eH cI mh mhol, eO cI mo mof, eY cI my mdy, eP cJ mp mpd]) [0, 1, 2, 3, 4] rfl
          have hD := hD.sub (ws' := [eM hm mh mo my mp v15.2 mc, eH cI mh mhol, eO cI mo mof, eY cI my mdy, eP cJ mp mpd]) [0, 1, 2, 3, 4] (by decide) rfl
          generalize H1 = H at hP hS ⊢
          refine W.widen (k := 0) (n := 0) (Nat.le_of_ble_eq_true rfl) (Nat.le_of_ble_eq_true rfl) ?_
          have e9 := Option.some.inj hf
          subst e9
          exact W.iret hx hb hr (fun t ht hW => ⟨⟨_, (), rfl, rfl, by rw [ht]; exact hP, hD⟩, hS.F ht⟩) hS.2.2 dX5_setCall_62
      refine lv_if_eq (tgt := 49) hx hb dX5_setCall_27 (by decide) (fun c16 => ?_) (fun c16 => ?_)
      · have hf := it hf c16
        exact JK6  ls (lv_sub hl [0, 1, 2, 3] rfl) hf
      · have hf := ie hf c16
        refine lv_iload_n hx hb dX5_setCall_30 rfl (lv_at hl 3 rfl) ?_
        refine lv_sipush (v := 8000) hx hb dX5_setCall_31 (by decide) ?_
        refine lv_sipush (v := 15000) hx hb dX5_setCall_34 (by decide) ?_
        obtain ⟨v17, hv17, hf⟩ := ob hf
        refine cSz (W.runS (As := [.int a2, .int 8000, .int 15000]) (rest := []) ⟨hx, hb, hml, hown, hts⟩ (m_X5_isIn l D cI cJ cO a2 8000 15000 v17 hv17) (va_cwS 3 hts gX5_setCall_X5_isIn rfl rfl rfl (by decide +kernel) ⟨(Nat.le_of_ble_eq_true rfl), (Nat.le_of_ble_eq_true rfl)⟩) ⟨pw_blind, fun U hU hW => ⟨rfl, pw_at hZ hS hP hK hU hW (Or.inr rfl) [] rfl⟩⟩ rfl rfl hl.1 rfl (lv_room (Nat.le_of_ble_eq_true rfl)) dX5_setCall_37 ⟨(Nat.le_of_ble_eq_true rfl), (Nat.le_of_ble_eq_true rfl)⟩) (fun zv17 => ?_)
        refine lv_if_ne (tgt := 49) hx hb dX5_setCall_40 (by decide) (fun c18 => ?_) (fun c18 => ?_)
        · have hf := ie hf c18
          exact JK6  ls (lv_sub hl [0, 1, 2, 3] rfl) hf
        · have hf := it hf c18
          refine lv_aload_n hx hb dX5_setCall_43 rfl (lv_at hl 0 rfl) ?_
          refine lv_iconst (v := 2) hx hb dX5_setCall_44 (by decide) ?_
          obtain ⟨v19, hv19, hf⟩ := ob hf
          have hPc := hP.sub (ws' := [eM hm mh mo my mp (va_up M 0 (0 : Int32)) mc, eH cI mh mhol, eO cI mo mof, eY cI my mdy, eP cJ mp mpd]) [0, 1, 2, 3, 4] rfl
          have hDc := hD.sub (ws' := [eM hm mh mo my mp (va_up M 0 (0 : Int32)) mc, eH cI mh mhol, eO cI mo mof, eY cI my mdy, eP cJ mp mpd]) [0, 1, 2, 3, 4] (by decide) rfl
          have hFc := va_free (wc := [eM hm mh mo my mp (va_up M 0 (0 : Int32)) mc, eH cI mh mhol, eO cI mo mof, eY cI my mdy, eP cJ mp mpd]) hD hS hA [0, 1, 2, 3, 4] rfl
          refine va_calli (va_runV (As := [.int 2]) (rest := []) ⟨hx, hb, hml, hown, hts⟩ (m_X5_no l D cI cJ cO hm mh mo my mp (va_up M 0 (0 : Int32)) mc mhol mof mdy mpd H.size 2 v19 hv19) (cwV 1 hts gX5_setCall_X5_no rfl rfl rfl (by decide +kernel) ⟨(Nat.le_of_ble_eq_true rfl), (Nat.le_of_ble_eq_true rfl)⟩) ⟨mp_blind, va_recv hK hP (ci := 4) (q0 := 0) rfl rfl, fun U hU hW => ⟨rfl, mp_at hZ hS hPc hK hDc hFc hU hW (Or.inr rfl)⟩⟩ rfl rfl hl.1 rfl (lv_room (Nat.le_of_ble_eq_true rfl)) dX5_setCall_45 ⟨(Nat.le_of_ble_eq_true rfl), (Nat.le_of_ble_eq_true rfl)⟩) hS (fun q _ h => hFc q h) hFc (fun rv19 u t H1 locs ht9 hvm hw hBx hz1 hk1 hS => ?_)
          subst hw
          obtain ⟨hP1, hD1⟩ := hBx
          rw [ht9] at hP1
          obtain ⟨hP, hD⟩ := va_join (wr := []) (w1 := [eM hm mh mo my mp v19.2 mc, eH cI mh mhol, eO cI mo mof, eY cI my mdy, eP cJ mp mpd]) hP hD [0, 1, 2, 3, 4] [] rfl rfl (by decide) (by decide) hk1 hFc hP1 hD1
          have hP := hP.sub (ws' := [eM hm mh mo my mp v19.2 mc, eH cI mh mhol, eO cI mo mof, eY cI my mdy, eP cJ mp mpd]) [0, 1, 2, 3, 4] rfl
          have hD := hD.sub (ws' := [eM hm mh mo my mp v19.2 mc, eH cI mh mhol, eO cI mo mof, eY cI my mdy, eP cJ mp mpd]) [0, 1, 2, 3, 4] (by decide) rfl
          generalize H1 = H at hP hS ⊢
          refine W.widen (k := 0) (n := 0) (Nat.le_of_ble_eq_true rfl) (Nat.le_of_ble_eq_true rfl) ?_
          have e9 := Option.some.inj hf
          subst e9
          exact W.iret hx hb hr (fun t ht hW => ⟨⟨_, (), rfl, rfl, by rw [ht]; exact hP, hD⟩, hS.F ht⟩) hS.2.2 dX5_setCall_48
  · have hf := it hf c2
    refine lv_aload_n hx hb dX5_setCall_13 rfl (lv_at hl 0 rfl) ?_
    refine lv_iconst (v := 1) hx hb dX5_setCall_14 (by decide) ?_
    obtain ⟨v20, hv20, hf⟩ := ob hf
    have hPc := hP.sub (ws' := [eM hm mh mo my mp (va_up M 0 (0 : Int32)) mc, eH cI mh mhol, eO cI mo mof, eY cI my mdy, eP cJ mp mpd]) [0, 1, 2, 3, 4] rfl
    have hDc := hD.sub (ws' := [eM hm mh mo my mp (va_up M 0 (0 : Int32)) mc, eH cI mh mhol, eO cI mo mof, eY cI my mdy, eP cJ mp mpd]) [0, 1, 2, 3, 4] (by decide) rfl
    have hFc := va_free (wc := [eM hm mh mo my mp (va_up M 0 (0 : Int32)) mc, eH cI mh mhol, eO cI mo mof, eY cI my mdy, eP cJ mp mpd]) hD hS hA [0, 1, 2, 3, 4] rfl
    refine va_calli (va_runV (As := [.int 1]) (rest := []) ⟨hx, hb, hml, hown, hts⟩ (m_X5_no l D cI cJ cO hm mh mo my mp (va_up M 0 (0 : Int32)) mc mhol mof mdy mpd H.size 1 v20 hv20) (cwV 1 hts gX5_setCall_X5_no rfl rfl rfl (by decide +kernel) ⟨(Nat.le_of_ble_eq_true rfl), (Nat.le_of_ble_eq_true rfl)⟩) ⟨mp_blind, va_recv hK hP (ci := 4) (q0 := 0) rfl rfl, fun U hU hW => ⟨rfl, mp_at hZ hS hPc hK hDc hFc hU hW (Or.inr rfl)⟩⟩ rfl rfl hl.1 rfl (lv_room (Nat.le_of_ble_eq_true rfl)) dX5_setCall_15 ⟨(Nat.le_of_ble_eq_true rfl), (Nat.le_of_ble_eq_true rfl)⟩) hS (fun q _ h => hFc q h) hFc (fun rv20 u t H1 locs ht9 hvm hw hBx hz1 hk1 hS => ?_)
    subst hw
    obtain ⟨hP1, hD1⟩ := hBx
    rw [ht9] at hP1
    obtain ⟨hP, hD⟩ := va_join (wr := []) (w1 := [eM hm mh mo my mp v20.2 mc, eH cI mh mhol, eO cI mo mof, eY cI my mdy, eP cJ mp mpd]) hP hD [0, 1, 2, 3, 4] [] rfl rfl (by decide) (by decide) hk1 hFc hP1 hD1
    have hP := hP.sub (ws' := [eM hm mh mo my mp v20.2 mc, eH cI mh mhol, eO cI mo mof, eY cI my mdy, eP cJ mp mpd]) [0, 1, 2, 3, 4] rfl
    have hD := hD.sub (ws' := [eM hm mh mo my mp v20.2 mc, eH cI mh mhol, eO cI mo mof, eY cI my mdy, eP cJ mp mpd]) [0, 1, 2, 3, 4] (by decide) rfl
    generalize H1 = H at hP hS ⊢
    refine W.widen (k := 0) (n := 0) (Nat.le_of_ble_eq_true rfl) (Nat.le_of_ble_eq_true rfl) ?_
    have e9 := Option.some.inj hf
    subst e9
    exact W.iret hx hb hr (fun t ht hW => ⟨⟨_, (), rfl, rfl, by rw [ht]; exact hP, hD⟩, hS.F ht⟩) hS.2.2 dX5_setCall_18
theorem inX5_setRate_X5 : ∀ w ∈ wsX50, w ∈ wsX5_setRate := by decide +kernel
set_option maxHeartbeats 4000000 in
set_option maxRecDepth 100000 in
theorem m_X5_setRate (l : Launch) (D : va_G) (cI cJ cO : ClassId) (hm : Nat) (mh : Nat) (mo : Nat) (my : Nat) (mp : Nat) (M : Nat → Int32) (mc : Int64) (mhol : Nat → Int32) (mof : Nat → Int32) (mdy : Nat → Int32) (mpd : Nat → Int64) (sz : Nat) (a0 : Int32) (r : Int32 × (Nat → Int32)) (hf : f_X5_setRate M a0 = some r) : Met l yX5_setRate wsX5_setRate ({ frames := 1, cells := 0, slots := 0, locals := 22 }) (va_Pc [.ref hm, .int a0] (mP D (ty3 cI cJ cO) none [eM hm mh mo my mp M mc, eH cI mh mhol, eO cI mo mof, eY cI my mdy, eP cJ mp mpd] sz)) (mQi D (va_A [eM hm mh mo my mp M mc, eH cI mh mhol, eO cI mo mof, eY cI my mdy, eP cJ mp mpd] sz) r.1 [eM hm mh mo my mp r.2 mc, eH cI mh mhol, eO cI mo mof, eY cI my mdy, eP cJ mp mpd]) 0 0 (va_A [eM hm mh mo my mp M mc, eH cI mh mhol, eO cI mo mof, eY cI my mdy, eP cJ mp mpd] sz) := by
  refine Met.ofW (cc := cX5_setRate) (maxL := 3) (ret := (some .int)) (by decide) rfl ?_
  intro p e s m args below meth c s₁ Bd hml hv
  obtain ⟨rfl, hsz, hZ, hP, hK, hD0⟩ := hv
  have hx := Bd.exec
  have hb := Bd.bytes
  have hr := Bd.returns
  have hts := atoms_spec (ws := wsX5_setRate) Bd.pre
  have hown : s.vm.findClass RX5 = some m.cls := findClass_of_methodNamed Bd.named
  have hlocks := Bd.notSynchronized
  subst hsz
  have hD := hD0.self (sz := s.heap.size)
  generalize hAe : va_A [eM hm mh mo my mp M mc, eH cI mh mhol, eO cI mo mof, eY cI my mdy, eP cJ mp mpd] s.heap.size = A at hD hZ ⊢
  have hA : ∀ q : Nat, s.heap.size ≤ q → A q := fun q h => by rw [← hAe]; exact Or.inr h
  have hS : va_S A s.heap s.heap [] := va_S.rf
  have hl := lv_entry ([.ref hm, .int a0]) (n := 3) (Nat.le_of_ble_eq_true rfl)
  rw [lg_entry_eq]
  generalize (lg_sl ([.ref hm, .int a0]) ++ List.replicate (3 - (lg_sl ([.ref hm, .int a0])).length) Slot.unset).toArray = ls at hl ⊢
  have hl : lv_has ls 3 [(0, .ref hm), (1, .int a0)] := hl
  unfold f_X5_setRate at hf
  refine lv_aload_n hx hb dX5_setRate_0 rfl (lv_at hl 0 rfl) ?_
  refine lv_iconst (v := 0) hx hb dX5_setRate_1 (by decide) ?_
  refine va_put (D := D) (ci := 4) (v := .int 0) (ty := .int) (C := RX5) (T := TX5) (N := 10) hx hb hts inX5_setRate_X5 tyX5 tyX5_ok nmX5 hown hK hP hD hS 0 rfl rfl 0 (by decide) (hts (.fieldLink RX5 41 "BondDeskModel" "thrown" "I") (by decide +kernel)) (fun _ h9 => h9) rfl (by decide +kernel) rfl rfl (Nat.le_of_ble_eq_true rfl) dX5_setRate_2 (fun H locs hP hD hS => ?_)
  have hP : va_P D vwCl [eM hm mh mo my mp (va_up M 0 (0 : Int32)) mc, eH cI mh mhol, eO cI mo mof, eY cI my mdy, eP cJ mp mpd] H := hP
  have hD : va_D A [eM hm mh mo my mp (va_up M 0 (0 : Int32)) mc, eH cI mh mhol, eO cI mo mof, eY cI my mdy, eP cJ mp mpd] := hD
  refine lv_iload_n hx hb dX5_setRate_5 rfl (lv_at hl 1 rfl) ?_
  refine lv_iconst (v := 0) hx hb dX5_setRate_6 (by decide) ?_
  refine lv_sipush (v := 2000) hx hb dX5_setRate_7 (by decide) ?_
  obtain ⟨v1, hv1, hf⟩ := ob hf
  refine cSz (W.runS (As := [.int a0, .int 0, .int 2000]) (rest := []) ⟨hx, hb, hml, hown, hts⟩ (m_X5_isIn l D cI cJ cO a0 0 2000 v1 hv1) (va_cwS 3 hts gX5_setRate_X5_isIn rfl rfl rfl (by decide +kernel) ⟨(Nat.le_of_ble_eq_true rfl), (Nat.le_of_ble_eq_true rfl)⟩) ⟨pw_blind, fun U hU hW => ⟨rfl, pw_at hZ hS hP hK hU hW (Or.inr rfl) [] rfl⟩⟩ rfl rfl hl.1 rfl (lv_room (Nat.le_of_ble_eq_true rfl)) dX5_setRate_10 ⟨(Nat.le_of_ble_eq_true rfl), (Nat.le_of_ble_eq_true rfl)⟩) (fun zv1 => ?_)
  refine lv_if_ne (tgt := 22) hx hb dX5_setRate_13 (by decide) (fun c2 => ?_) (fun c2 => ?_)
  · have hf := ie hf c2
    refine lv_aload_n hx hb dX5_setRate_22 rfl (lv_at hl 0 rfl) ?_
    refine va_get (D := D) (ci := 4) (v := .int (M 3)) (C := RX5) (T := TX5) (N := 10) hx hb hts inX5_setRate_X5 hown hK hP 0 rfl rfl 3 (by decide) (hts (.fieldLink RX5 24 "BondDeskModel" "rate" "I") (by decide +kernel)) (fun _ h9 => h9) rfl dX5_setRate_23 ?_
    refine lv_topi (fun x3 ex3 => ?_)
    have hf := bd_s hf ex3
    refine lv_istore_n (lv' := [(2, .int x3), (0, .ref hm), (1, .int a0)]) hx hb dX5_setRate_26 rfl hl (by decide) rfl (fun ls hl => ?_)
    refine lv_aload_n hx hb dX5_setRate_27 rfl (lv_at hl 1 rfl) ?_
    refine lv_iload_n hx hb dX5_setRate_28 rfl (lv_at hl 2 rfl) ?_
    refine va_put (D := D) (ci := 4) (v := .int a0) (ty := .int) (C := RX5) (T := TX5) (N := 10) hx hb hts inX5_setRate_X5 tyX5 tyX5_ok nmX5 hown hK hP hD hS 0 rfl rfl 3 (by decide) (hts (.fieldLink RX5 24 "BondDeskModel" "rate" "I") (by decide +kernel)) (fun _ h9 => h9) rfl (by decide +kernel) rfl rfl (Nat.le_of_ble_eq_true rfl) dX5_setRate_29 (fun H locs hP hD hS => ?_)
    have hP : va_P D vwCl [eM hm mh mo my mp (va_up (va_up M 0 (0 : Int32)) 3 a0) mc, eH cI mh mhol, eO cI mo mof, eY cI my mdy, eP cJ mp mpd] H := hP
    have hD : va_D A [eM hm mh mo my mp (va_up (va_up M 0 (0 : Int32)) 3 a0) mc, eH cI mh mhol, eO cI mo mof, eY cI my mdy, eP cJ mp mpd] := hD
    refine lv_iload_n hx hb dX5_setRate_32 rfl (lv_at hl 0 rfl) ?_
    refine W.widen (k := 0) (n := 0) (Nat.le_of_ble_eq_true rfl) (Nat.le_of_ble_eq_true rfl) ?_
    have e9 := Option.some.inj hf
    subst e9
    exact W.iret hx hb hr (fun t ht hW => ⟨⟨_, (), rfl, rfl, by rw [ht]; exact hP, hD⟩, hS.F ht⟩) hS.2.2 dX5_setRate_33
  · have hf := it hf c2
    refine lv_aload_n hx hb dX5_setRate_16 rfl (lv_at hl 0 rfl) ?_
    refine lv_iconst (v := 1) hx hb dX5_setRate_17 (by decide) ?_
    obtain ⟨v4, hv4, hf⟩ := ob hf
    have hPc := hP.sub (ws' := [eM hm mh mo my mp (va_up M 0 (0 : Int32)) mc, eH cI mh mhol, eO cI mo mof, eY cI my mdy, eP cJ mp mpd]) [0, 1, 2, 3, 4] rfl
    have hDc := hD.sub (ws' := [eM hm mh mo my mp (va_up M 0 (0 : Int32)) mc, eH cI mh mhol, eO cI mo mof, eY cI my mdy, eP cJ mp mpd]) [0, 1, 2, 3, 4] (by decide) rfl
    have hFc := va_free (wc := [eM hm mh mo my mp (va_up M 0 (0 : Int32)) mc, eH cI mh mhol, eO cI mo mof, eY cI my mdy, eP cJ mp mpd]) hD hS hA [0, 1, 2, 3, 4] rfl
    refine va_calli (va_runV (As := [.int 1]) (rest := []) ⟨hx, hb, hml, hown, hts⟩ (m_X5_no l D cI cJ cO hm mh mo my mp (va_up M 0 (0 : Int32)) mc mhol mof mdy mpd H.size 1 v4 hv4) (cwV 1 hts gX5_setRate_X5_no rfl rfl rfl (by decide +kernel) ⟨(Nat.le_of_ble_eq_true rfl), (Nat.le_of_ble_eq_true rfl)⟩) ⟨mp_blind, va_recv hK hP (ci := 4) (q0 := 0) rfl rfl, fun U hU hW => ⟨rfl, mp_at hZ hS hPc hK hDc hFc hU hW (Or.inr rfl)⟩⟩ rfl rfl hl.1 rfl (lv_room (Nat.le_of_ble_eq_true rfl)) dX5_setRate_18 ⟨(Nat.le_of_ble_eq_true rfl), (Nat.le_of_ble_eq_true rfl)⟩) hS (fun q _ h => hFc q h) hFc (fun rv4 u t H1 locs ht9 hvm hw hBx hz1 hk1 hS => ?_)
    subst hw
    obtain ⟨hP1, hD1⟩ := hBx
    rw [ht9] at hP1
    obtain ⟨hP, hD⟩ := va_join (wr := []) (w1 := [eM hm mh mo my mp v4.2 mc, eH cI mh mhol, eO cI mo mof, eY cI my mdy, eP cJ mp mpd]) hP hD [0, 1, 2, 3, 4] [] rfl rfl (by decide) (by decide) hk1 hFc hP1 hD1
    have hP := hP.sub (ws' := [eM hm mh mo my mp v4.2 mc, eH cI mh mhol, eO cI mo mof, eY cI my mdy, eP cJ mp mpd]) [0, 1, 2, 3, 4] rfl
    have hD := hD.sub (ws' := [eM hm mh mo my mp v4.2 mc, eH cI mh mhol, eO cI mo mof, eY cI my mdy, eP cJ mp mpd]) [0, 1, 2, 3, 4] (by decide) rfl
    generalize H1 = H at hP hS ⊢
    refine W.widen (k := 0) (n := 0) (Nat.le_of_ble_eq_true rfl) (Nat.le_of_ble_eq_true rfl) ?_
    have e9 := Option.some.inj hf
    subst e9
    exact W.iret hx hb hr (fun t ht hW => ⟨⟨_, (), rfl, rfl, by rw [ht]; exact hP, hD⟩, hS.F ht⟩) hS.2.2 dX5_setRate_21
theorem inX5_bond_X5 : ∀ w ∈ wsX50, w ∈ wsX5_bond := by decide +kernel
set_option maxHeartbeats 4000000 in
set_option maxRecDepth 100000 in
theorem m_X5_bond (l : Launch) (D : va_G) (cI cJ cO : ClassId) (hm : Nat) (mh : Nat) (mo : Nat) (my : Nat) (mp : Nat) (M : Nat → Int32) (mc : Int64) (mhol : Nat → Int32) (mof : Nat → Int32) (mdy : Nat → Int32) (mpd : Nat → Int64) (sz : Nat) (a0 : Int32) (a1 : Int32) (N : Nat) (r : Int32 × (Nat → Int32)) (hf : f_X5_bond N M mof a0 a1 = some r) : Met l yX5_bond wsX5_bond ({ frames := 3, cells := 0, slots := 0, locals := 66 }) (va_Pc [.ref hm, .int a0, .int a1] (mP D (ty3 cI cJ cO) none [eM hm mh mo my mp M mc, eH cI mh mhol, eO cI mo mof, eY cI my mdy, eP cJ mp mpd] sz)) (mQi D (va_A [eM hm mh mo my mp M mc, eH cI mh mhol, eO cI mo mof, eY cI my mdy, eP cJ mp mpd] sz) r.1 [eM hm mh mo my mp r.2 mc, eH cI mh mhol, eO cI mo mof, eY cI my mdy, eP cJ mp mpd]) 0 0 (va_A [eM hm mh mo my mp M mc, eH cI mh mhol, eO cI mo mof, eY cI my mdy, eP cJ mp mpd] sz) := by
  refine Met.ofW (cc := cX5_bond) (maxL := 3) (ret := (some .int)) (by decide) rfl ?_
  intro p e s m args below meth c s₁ Bd hml hv
  obtain ⟨rfl, hsz, hZ, hP, hK, hD0⟩ := hv
  have hx := Bd.exec
  have hb := Bd.bytes
  have hr := Bd.returns
  have hts := atoms_spec (ws := wsX5_bond) Bd.pre
  have hown : s.vm.findClass RX5 = some m.cls := findClass_of_methodNamed Bd.named
  have hlocks := Bd.notSynchronized
  subst hsz
  have hD := hD0.self (sz := s.heap.size)
  generalize hAe : va_A [eM hm mh mo my mp M mc, eH cI mh mhol, eO cI mo mof, eY cI my mdy, eP cJ mp mpd] s.heap.size = A at hD hZ ⊢
  have hA : ∀ q : Nat, s.heap.size ≤ q → A q := fun q h => by rw [← hAe]; exact Or.inr h
  have hS : va_S A s.heap s.heap [] := va_S.rf
  have hl := lv_entry ([.ref hm, .int a0, .int a1]) (n := 3) (Nat.le_of_ble_eq_true rfl)
  rw [lg_entry_eq]
  generalize (lg_sl ([.ref hm, .int a0, .int a1]) ++ List.replicate (3 - (lg_sl ([.ref hm, .int a0, .int a1])).length) Slot.unset).toArray = ls at hl ⊢
  have hl : lv_has ls 3 [(0, .ref hm), (1, .int a0), (2, .int a1)] := hl
  unfold f_X5_bond at hf
  refine lv_aload_n hx hb dX5_bond_0 rfl (lv_at hl 0 rfl) ?_
  refine lv_iconst (v := 0) hx hb dX5_bond_1 (by decide) ?_
  refine va_put (D := D) (ci := 4) (v := .int 0) (ty := .int) (C := RX5) (T := TX5) (N := 10) hx hb hts inX5_bond_X5 tyX5 tyX5_ok nmX5 hown hK hP hD hS 0 rfl rfl 0 (by decide) (hts (.fieldLink RX5 41 "BondDeskModel" "thrown" "I") (by decide +kernel)) (fun _ h9 => h9) rfl (by decide +kernel) rfl rfl (Nat.le_of_ble_eq_true rfl) dX5_bond_2 (fun H locs hP hD hS => ?_)
  have hP : va_P D vwCl [eM hm mh mo my mp (va_up M 0 (0 : Int32)) mc, eH cI mh mhol, eO cI mo mof, eY cI my mdy, eP cJ mp mpd] H := hP
  have hD : va_D A [eM hm mh mo my mp (va_up M 0 (0 : Int32)) mc, eH cI mh mhol, eO cI mo mof, eY cI my mdy, eP cJ mp mpd] := hD
  refine lv_aload_n hx hb dX5_bond_5 rfl (lv_at hl 0 rfl) ?_
  refine lv_iload_n hx hb dX5_bond_6 rfl (lv_at hl 1 rfl) ?_
  obtain ⟨v1, hv1, hf⟩ := ob hf
  refine cSz (W.runV (As := [.int a0]) (rest := []) ⟨hx, hb, hml, hown, hts⟩ (m_X5_isBond l D cI cJ cO hm mh mo my mp (va_up M 0 (0 : Int32)) mc mhol mof mdy mpd a0 v1 hv1) (cwV 1 hts gX5_bond_X5_isBond rfl rfl rfl (by decide +kernel) ⟨(Nat.le_of_ble_eq_true rfl), (Nat.le_of_ble_eq_true rfl)⟩) ⟨pw_blind, va_recv hK hP (ci := 4) (q0 := 0) rfl rfl, fun U hU hW => ⟨rfl, pw_at hZ hS hP hK hU hW (Or.inr rfl) [0, 1, 2, 3, 4] rfl⟩⟩ rfl rfl hl.1 rfl (lv_room (Nat.le_of_ble_eq_true rfl)) dX5_bond_7 ⟨(Nat.le_of_ble_eq_true rfl), (Nat.le_of_ble_eq_true rfl)⟩) (fun zv1 => ?_)
  refine lv_if_eq (tgt := 32) hx hb dX5_bond_10 (by decide) (fun c2 => ?_) (fun c2 => ?_)
  · have hf := it hf c2
    refine lv_aload_n hx hb dX5_bond_32 rfl (lv_at hl 0 rfl) ?_
    refine lv_iconst (v := 1) hx hb dX5_bond_33 (by decide) ?_
    obtain ⟨v3, hv3, hf⟩ := ob hf
    have hPc := hP.sub (ws' := [eM hm mh mo my mp (va_up M 0 (0 : Int32)) mc, eH cI mh mhol, eO cI mo mof, eY cI my mdy, eP cJ mp mpd]) [0, 1, 2, 3, 4] rfl
    have hDc := hD.sub (ws' := [eM hm mh mo my mp (va_up M 0 (0 : Int32)) mc, eH cI mh mhol, eO cI mo mof, eY cI my mdy, eP cJ mp mpd]) [0, 1, 2, 3, 4] (by decide) rfl
    have hFc := va_free (wc := [eM hm mh mo my mp (va_up M 0 (0 : Int32)) mc, eH cI mh mhol, eO cI mo mof, eY cI my mdy, eP cJ mp mpd]) hD hS hA [0, 1, 2, 3, 4] rfl
    refine va_calli (va_runV (As := [.int 1]) (rest := []) ⟨hx, hb, hml, hown, hts⟩ (m_X5_no l D cI cJ cO hm mh mo my mp (va_up M 0 (0 : Int32)) mc mhol mof mdy mpd H.size 1 v3 hv3) (cwV 1 hts gX5_bond_X5_no rfl rfl rfl (by decide +kernel) ⟨(Nat.le_of_ble_eq_true rfl), (Nat.le_of_ble_eq_true rfl)⟩) ⟨mp_blind, va_recv hK hP (ci := 4) (q0 := 0) rfl rfl, fun U hU hW => ⟨rfl, mp_at hZ hS hPc hK hDc hFc hU hW (Or.inr rfl)⟩⟩ rfl rfl hl.1 rfl (lv_room (Nat.le_of_ble_eq_true rfl)) dX5_bond_34 ⟨(Nat.le_of_ble_eq_true rfl), (Nat.le_of_ble_eq_true rfl)⟩) hS (fun q _ h => hFc q h) hFc (fun rv3 u t H1 locs ht9 hvm hw hBx hz1 hk1 hS => ?_)
    subst hw
    obtain ⟨hP1, hD1⟩ := hBx
    rw [ht9] at hP1
    obtain ⟨hP, hD⟩ := va_join (wr := []) (w1 := [eM hm mh mo my mp v3.2 mc, eH cI mh mhol, eO cI mo mof, eY cI my mdy, eP cJ mp mpd]) hP hD [0, 1, 2, 3, 4] [] rfl rfl (by decide) (by decide) hk1 hFc hP1 hD1
    have hP := hP.sub (ws' := [eM hm mh mo my mp v3.2 mc, eH cI mh mhol, eO cI mo mof, eY cI my mdy, eP cJ mp mpd]) [0, 1, 2, 3, 4] rfl
    have hD := hD.sub (ws' := [eM hm mh mo my mp v3.2 mc, eH cI mh mhol, eO cI mo mof, eY cI my mdy, eP cJ mp mpd]) [0, 1, 2, 3, 4] (by decide) rfl
    generalize H1 = H at hP hS ⊢
    refine W.widen (k := 0) (n := 0) (Nat.le_of_ble_eq_true rfl) (Nat.le_of_ble_eq_true rfl) ?_
    have e9 := Option.some.inj hf
    subst e9
    exact W.iret hx hb hr (fun t ht hW => ⟨⟨_, (), rfl, rfl, by rw [ht]; exact hP, hD⟩, hS.F ht⟩) hS.2.2 dX5_bond_37
  · have hf := ie hf c2
    refine lv_iload_n hx hb dX5_bond_13 rfl (lv_at hl 2 rfl) ?_
    refine lv_iconst (v := 0) hx hb dX5_bond_14 (by decide) ?_
    refine lv_bipush (v := 10) hx hb dX5_bond_15 (by decide) ?_
    obtain ⟨v4, hv4, hf⟩ := ob hf
    refine cSz (W.runS (As := [.int a1, .int 0, .int 10]) (rest := []) ⟨hx, hb, hml, hown, hts⟩ (m_X5_isIn l D cI cJ cO a1 0 10 v4 hv4) (va_cwS 3 hts gX5_bond_X5_isIn rfl rfl rfl (by decide +kernel) ⟨(Nat.le_of_ble_eq_true rfl), (Nat.le_of_ble_eq_true rfl)⟩) ⟨pw_blind, fun U hU hW => ⟨rfl, pw_at hZ hS hP hK hU hW (Or.inr rfl) [] rfl⟩⟩ rfl rfl hl.1 rfl (lv_room (Nat.le_of_ble_eq_true rfl)) dX5_bond_17 ⟨(Nat.le_of_ble_eq_true rfl), (Nat.le_of_ble_eq_true rfl)⟩) (fun zv4 => ?_)
    refine lv_if_eq (tgt := 32) hx hb dX5_bond_20 (by decide) (fun c5 => ?_) (fun c5 => ?_)
    · have hf := it hf c5
      refine lv_aload_n hx hb dX5_bond_32 rfl (lv_at hl 0 rfl) ?_
      refine lv_iconst (v := 1) hx hb dX5_bond_33 (by decide) ?_
      obtain ⟨v6, hv6, hf⟩ := ob hf
      have hPc := hP.sub (ws' := [eM hm mh mo my mp (va_up M 0 (0 : Int32)) mc, eH cI mh mhol, eO cI mo mof, eY cI my mdy, eP cJ mp mpd]) [0, 1, 2, 3, 4] rfl
      have hDc := hD.sub (ws' := [eM hm mh mo my mp (va_up M 0 (0 : Int32)) mc, eH cI mh mhol, eO cI mo mof, eY cI my mdy, eP cJ mp mpd]) [0, 1, 2, 3, 4] (by decide) rfl
      have hFc := va_free (wc := [eM hm mh mo my mp (va_up M 0 (0 : Int32)) mc, eH cI mh mhol, eO cI mo mof, eY cI my mdy, eP cJ mp mpd]) hD hS hA [0, 1, 2, 3, 4] rfl
      refine va_calli (va_runV (As := [.int 1]) (rest := []) ⟨hx, hb, hml, hown, hts⟩ (m_X5_no l D cI cJ cO hm mh mo my mp (va_up M 0 (0 : Int32)) mc mhol mof mdy mpd H.size 1 v6 hv6) (cwV 1 hts gX5_bond_X5_no rfl rfl rfl (by decide +kernel) ⟨(Nat.le_of_ble_eq_true rfl), (Nat.le_of_ble_eq_true rfl)⟩) ⟨mp_blind, va_recv hK hP (ci := 4) (q0 := 0) rfl rfl, fun U hU hW => ⟨rfl, mp_at hZ hS hPc hK hDc hFc hU hW (Or.inr rfl)⟩⟩ rfl rfl hl.1 rfl (lv_room (Nat.le_of_ble_eq_true rfl)) dX5_bond_34 ⟨(Nat.le_of_ble_eq_true rfl), (Nat.le_of_ble_eq_true rfl)⟩) hS (fun q _ h => hFc q h) hFc (fun rv6 u t H1 locs ht9 hvm hw hBx hz1 hk1 hS => ?_)
      subst hw
      obtain ⟨hP1, hD1⟩ := hBx
      rw [ht9] at hP1
      obtain ⟨hP, hD⟩ := va_join (wr := []) (w1 := [eM hm mh mo my mp v6.2 mc, eH cI mh mhol, eO cI mo mof, eY cI my mdy, eP cJ mp mpd]) hP hD [0, 1, 2, 3, 4] [] rfl rfl (by decide) (by decide) hk1 hFc hP1 hD1
      have hP := hP.sub (ws' := [eM hm mh mo my mp v6.2 mc, eH cI mh mhol, eO cI mo mof, eY cI my mdy, eP cJ mp mpd]) [0, 1, 2, 3, 4] rfl
      have hD := hD.sub (ws' := [eM hm mh mo my mp v6.2 mc, eH cI mh mhol, eO cI mo mof, eY cI my mdy, eP cJ mp mpd]) [0, 1, 2, 3, 4] (by decide) rfl
      generalize H1 = H at hP hS ⊢
      refine W.widen (k := 0) (n := 0) (Nat.le_of_ble_eq_true rfl) (Nat.le_of_ble_eq_true rfl) ?_
      have e9 := Option.some.inj hf
      subst e9
      exact W.iret hx hb hr (fun t ht hW => ⟨⟨_, (), rfl, rfl, by rw [ht]; exact hP, hD⟩, hS.F ht⟩) hS.2.2 dX5_bond_37
    · have hf := ie hf c5
      refine lv_aload_n hx hb dX5_bond_23 rfl (lv_at hl 0 rfl) ?_
      refine lv_iload_n hx hb dX5_bond_24 rfl (lv_at hl 1 rfl) ?_
      refine lv_iload_n hx hb dX5_bond_25 rfl (lv_at hl 2 rfl) ?_
      obtain ⟨v7, hv7, hf⟩ := ob hf
      refine cSi (W.runV (As := [.int a0, .int a1]) (rest := []) ⟨hx, hb, hml, hown, hts⟩ (m_X5_told l D cI cJ cO hm mh mo my mp (va_up M 0 (0 : Int32)) mc mhol mof mdy mpd a0 a1 N v7 hv7) (cwV 2 hts gX5_bond_X5_told rfl rfl rfl (by decide +kernel) ⟨(Nat.le_of_ble_eq_true rfl), (Nat.le_of_ble_eq_true rfl)⟩) ⟨pw_blind, va_recv hK hP (ci := 4) (q0 := 0) rfl rfl, fun U hU hW => ⟨rfl, pw_at hZ hS hP hK hU hW (Or.inr rfl) [0, 1, 2, 3, 4] rfl⟩⟩ rfl rfl hl.1 rfl (lv_room (Nat.le_of_ble_eq_true rfl)) dX5_bond_26 ⟨(Nat.le_of_ble_eq_true rfl), (Nat.le_of_ble_eq_true rfl)⟩) ?_
      refine lv_goto (tgt := 37) hx hb dX5_bond_29 (by decide) ?_
      refine W.widen (k := 0) (n := 0) (Nat.le_of_ble_eq_true rfl) (Nat.le_of_ble_eq_true rfl) ?_
      have e9 := Option.some.inj hf
      subst e9
      exact W.iret hx hb hr (fun t ht hW => ⟨⟨_, (), rfl, rfl, by rw [ht]; exact hP, hD⟩, hS.F ht⟩) hS.2.2 dX5_bond_37
theorem inX5_coupon__X5 : ∀ w ∈ wsX50, w ∈ wsX5_coupon_ := by decide +kernel
set_option maxHeartbeats 4000000 in
set_option maxRecDepth 100000 in
theorem m_X5_coupon_ (l : Launch) (D : va_G) (cI cJ cO : ClassId) (hm : Nat) (mh : Nat) (mo : Nat) (my : Nat) (mp : Nat) (M : Nat → Int32) (mc : Int64) (mhol : Nat → Int32) (mof : Nat → Int32) (mdy : Nat → Int32) (mpd : Nat → Int64) (sz : Nat) (a0 : Int32) (a1 : Int32) (a2 : Int32) (N : Nat) (r : Int32 × (Nat → Int32)) (hf : f_X5_coupon_ N M mhol mof mdy a0 a1 a2 = some r) : Met l yX5_coupon_ wsX5_coupon_ ({ frames := 5, cells := 0, slots := 0, locals := 118 }) (va_Pc [.ref hm, .int a0, .int a1, .int a2] (mP D (ty3 cI cJ cO) none [eM hm mh mo my mp M mc, eH cI mh mhol, eO cI mo mof, eY cI my mdy, eP cJ mp mpd] sz)) (mQi D (va_A [eM hm mh mo my mp M mc, eH cI mh mhol, eO cI mo mof, eY cI my mdy, eP cJ mp mpd] sz) r.1 [eM hm mh mo my mp r.2 mc, eH cI mh mhol, eO cI mo mof, eY cI my mdy, eP cJ mp mpd]) 0 0 (va_A [eM hm mh mo my mp M mc, eH cI mh mhol, eO cI mo mof, eY cI my mdy, eP cJ mp mpd] sz) := by
  refine Met.ofW (cc := cX5_coupon_) (maxL := 4) (ret := (some .int)) (by decide) rfl ?_
  intro p e s m args below meth c s₁ Bd hml hv
  obtain ⟨rfl, hsz, hZ, hP, hK, hD0⟩ := hv
  have hx := Bd.exec
  have hb := Bd.bytes
  have hr := Bd.returns
  have hts := atoms_spec (ws := wsX5_coupon_) Bd.pre
  have hown : s.vm.findClass RX5 = some m.cls := findClass_of_methodNamed Bd.named
  have hlocks := Bd.notSynchronized
  subst hsz
  have hD := hD0.self (sz := s.heap.size)
  generalize hAe : va_A [eM hm mh mo my mp M mc, eH cI mh mhol, eO cI mo mof, eY cI my mdy, eP cJ mp mpd] s.heap.size = A at hD hZ ⊢
  have hA : ∀ q : Nat, s.heap.size ≤ q → A q := fun q h => by rw [← hAe]; exact Or.inr h
  have hS : va_S A s.heap s.heap [] := va_S.rf
  have hl := lv_entry ([.ref hm, .int a0, .int a1, .int a2]) (n := 4) (Nat.le_of_ble_eq_true rfl)
  rw [lg_entry_eq]
  generalize (lg_sl ([.ref hm, .int a0, .int a1, .int a2]) ++ List.replicate (4 - (lg_sl ([.ref hm, .int a0, .int a1, .int a2])).length) Slot.unset).toArray = ls at hl ⊢
  have hl : lv_has ls 4 [(0, .ref hm), (1, .int a0), (2, .int a1), (3, .int a2)] := hl
  unfold f_X5_coupon_ at hf
  refine lv_aload_n hx hb dX5_coupon__0 rfl (lv_at hl 0 rfl) ?_
  refine lv_iconst (v := 0) hx hb dX5_coupon__1 (by decide) ?_
  refine va_put (D := D) (ci := 4) (v := .int 0) (ty := .int) (C := RX5) (T := TX5) (N := 10) hx hb hts inX5_coupon__X5 tyX5 tyX5_ok nmX5 hown hK hP hD hS 0 rfl rfl 0 (by decide) (hts (.fieldLink RX5 41 "BondDeskModel" "thrown" "I") (by decide +kernel)) (fun _ h9 => h9) rfl (by decide +kernel) rfl rfl (Nat.le_of_ble_eq_true rfl) dX5_coupon__2 (fun H locs hP hD hS => ?_)
  have hP : va_P D vwCl [eM hm mh mo my mp (va_up M 0 (0 : Int32)) mc, eH cI mh mhol, eO cI mo mof, eY cI my mdy, eP cJ mp mpd] H := hP
  have hD : va_D A [eM hm mh mo my mp (va_up M 0 (0 : Int32)) mc, eH cI mh mhol, eO cI mo mof, eY cI my mdy, eP cJ mp mpd] := hD
  refine lv_aload_n hx hb dX5_coupon__5 rfl (lv_at hl 0 rfl) ?_
  refine lv_iload_n hx hb dX5_coupon__6 rfl (lv_at hl 1 rfl) ?_
  obtain ⟨v1, hv1, hf⟩ := ob hf
  refine cSz (W.runV (As := [.int a0]) (rest := []) ⟨hx, hb, hml, hown, hts⟩ (m_X5_isBond l D cI cJ cO hm mh mo my mp (va_up M 0 (0 : Int32)) mc mhol mof mdy mpd a0 v1 hv1) (cwV 1 hts gX5_coupon__X5_isBond rfl rfl rfl (by decide +kernel) ⟨(Nat.le_of_ble_eq_true rfl), (Nat.le_of_ble_eq_true rfl)⟩) ⟨pw_blind, va_recv hK hP (ci := 4) (q0 := 0) rfl rfl, fun U hU hW => ⟨rfl, pw_at hZ hS hP hK hU hW (Or.inr rfl) [0, 1, 2, 3, 4] rfl⟩⟩ rfl rfl hl.1 rfl (lv_room (Nat.le_of_ble_eq_true rfl)) dX5_coupon__7 ⟨(Nat.le_of_ble_eq_true rfl), (Nat.le_of_ble_eq_true rfl)⟩) (fun zv1 => ?_)
  refine lv_if_eq (tgt := 49) hx hb dX5_coupon__10 (by decide) (fun c2 => ?_) (fun c2 => ?_)
  · have hf := it hf c2
    refine lv_aload_n hx hb dX5_coupon__49 rfl (lv_at hl 0 rfl) ?_
    refine lv_iconst (v := 1) hx hb dX5_coupon__50 (by decide) ?_
    obtain ⟨v3, hv3, hf⟩ := ob hf
    have hPc := hP.sub (ws' := [eM hm mh mo my mp (va_up M 0 (0 : Int32)) mc, eH cI mh mhol, eO cI mo mof, eY cI my mdy, eP cJ mp mpd]) [0, 1, 2, 3, 4] rfl
    have hDc := hD.sub (ws' := [eM hm mh mo my mp (va_up M 0 (0 : Int32)) mc, eH cI mh mhol, eO cI mo mof, eY cI my mdy, eP cJ mp mpd]) [0, 1, 2, 3, 4] (by decide) rfl
    have hFc := va_free (wc := [eM hm mh mo my mp (va_up M 0 (0 : Int32)) mc, eH cI mh mhol, eO cI mo mof, eY cI my mdy, eP cJ mp mpd]) hD hS hA [0, 1, 2, 3, 4] rfl
    refine va_calli (va_runV (As := [.int 1]) (rest := []) ⟨hx, hb, hml, hown, hts⟩ (m_X5_no l D cI cJ cO hm mh mo my mp (va_up M 0 (0 : Int32)) mc mhol mof mdy mpd H.size 1 v3 hv3) (cwV 1 hts gX5_coupon__X5_no rfl rfl rfl (by decide +kernel) ⟨(Nat.le_of_ble_eq_true rfl), (Nat.le_of_ble_eq_true rfl)⟩) ⟨mp_blind, va_recv hK hP (ci := 4) (q0 := 0) rfl rfl, fun U hU hW => ⟨rfl, mp_at hZ hS hPc hK hDc hFc hU hW (Or.inr rfl)⟩⟩ rfl rfl hl.1 rfl (lv_room (Nat.le_of_ble_eq_true rfl)) dX5_coupon__51 ⟨(Nat.le_of_ble_eq_true rfl), (Nat.le_of_ble_eq_true rfl)⟩) hS (fun q _ h => hFc q h) hFc (fun rv3 u t H1 locs ht9 hvm hw hBx hz1 hk1 hS => ?_)
    subst hw
    obtain ⟨hP1, hD1⟩ := hBx
    rw [ht9] at hP1
    obtain ⟨hP, hD⟩ := va_join (wr := []) (w1 := [eM hm mh mo my mp v3.2 mc, eH cI mh mhol, eO cI mo mof, eY cI my mdy, eP cJ mp mpd]) hP hD [0, 1, 2, 3, 4] [] rfl rfl (by decide) (by decide) hk1 hFc hP1 hD1
    have hP := hP.sub (ws' := [eM hm mh mo my mp v3.2 mc, eH cI mh mhol, eO cI mo mof, eY cI my mdy, eP cJ mp mpd]) [0, 1, 2, 3, 4] rfl
    have hD := hD.sub (ws' := [eM hm mh mo my mp v3.2 mc, eH cI mh mhol, eO cI mo mof, eY cI my mdy, eP cJ mp mpd]) [0, 1, 2, 3, 4] (by decide) rfl
    generalize H1 = H at hP hS ⊢
    refine W.widen (k := 0) (n := 0) (Nat.le_of_ble_eq_true rfl) (Nat.le_of_ble_eq_true rfl) ?_
    have e9 := Option.some.inj hf
    subst e9
    exact W.iret hx hb hr (fun t ht hW => ⟨⟨_, (), rfl, rfl, by rw [ht]; exact hP, hD⟩, hS.F ht⟩) hS.2.2 dX5_coupon__54
  · have hf := ie hf c2
    refine lv_iload_n hx hb dX5_coupon__13 rfl (lv_at hl 2 rfl) ?_
    refine lv_iconst (v := 0) hx hb dX5_coupon__14 (by decide) ?_
    refine lv_aload_n hx hb dX5_coupon__15 rfl (lv_at hl 0 rfl) ?_
    refine lv_iload_n hx hb dX5_coupon__16 rfl (lv_at hl 1 rfl) ?_
    refine lv_bipush (v := 6) hx hb dX5_coupon__17 (by decide) ?_
    obtain ⟨v4, hv4, hf⟩ := ob hf
    refine cSi (W.runV (As := [.int a0, .int 6]) (rest := [.int 0, .int a1]) ⟨hx, hb, hml, hown, hts⟩ (m_X5_own l D cI cJ cO hm mh mo my mp (va_up M 0 (0 : Int32)) mc mhol mof mdy mpd a0 6 v4 hv4) (cwV 2 hts gX5_coupon__X5_own rfl rfl rfl (by decide +kernel) ⟨(Nat.le_of_ble_eq_true rfl), (Nat.le_of_ble_eq_true rfl)⟩) ⟨pw_blind, va_recv hK hP (ci := 4) (q0 := 0) rfl rfl, fun U hU hW => ⟨rfl, pw_at hZ hS hP hK hU hW (Or.inr rfl) [0, 1, 2, 3, 4] rfl⟩⟩ rfl rfl hl.1 rfl (lv_room (Nat.le_of_ble_eq_true rfl)) dX5_coupon__19 ⟨(Nat.le_of_ble_eq_true rfl), (Nat.le_of_ble_eq_true rfl)⟩) ?_
    refine lv_iconst (v := 1) hx hb dX5_coupon__22 (by decide) ?_
    refine lv_isub hx hb dX5_coupon__23 ?_
    obtain ⟨v5, hv5, hf⟩ := ob hf
    refine cSz (W.runS (As := [.int a1, .int 0, .int (v4 - 1)]) (rest := []) ⟨hx, hb, hml, hown, hts⟩ (m_X5_isIn l D cI cJ cO a1 0 (v4 - 1) v5 hv5) (va_cwS 3 hts gX5_coupon__X5_isIn rfl rfl rfl (by decide +kernel) ⟨(Nat.le_of_ble_eq_true rfl), (Nat.le_of_ble_eq_true rfl)⟩) ⟨pw_blind, fun U hU hW => ⟨rfl, pw_at hZ hS hP hK hU hW (Or.inr rfl) [] rfl⟩⟩ rfl rfl hl.1 rfl (lv_room (Nat.le_of_ble_eq_true rfl)) dX5_coupon__24 ⟨(Nat.le_of_ble_eq_true rfl), (Nat.le_of_ble_eq_true rfl)⟩) (fun zv5 => ?_)
    refine lv_if_eq (tgt := 49) hx hb dX5_coupon__27 (by decide) (fun c6 => ?_) (fun c6 => ?_)
    · have hf := it hf c6
      refine lv_aload_n hx hb dX5_coupon__49 rfl (lv_at hl 0 rfl) ?_
      refine lv_iconst (v := 1) hx hb dX5_coupon__50 (by decide) ?_
      obtain ⟨v7, hv7, hf⟩ := ob hf
      have hPc := hP.sub (ws' := [eM hm mh mo my mp (va_up M 0 (0 : Int32)) mc, eH cI mh mhol, eO cI mo mof, eY cI my mdy, eP cJ mp mpd]) [0, 1, 2, 3, 4] rfl
      have hDc := hD.sub (ws' := [eM hm mh mo my mp (va_up M 0 (0 : Int32)) mc, eH cI mh mhol, eO cI mo mof, eY cI my mdy, eP cJ mp mpd]) [0, 1, 2, 3, 4] (by decide) rfl
      have hFc := va_free (wc := [eM hm mh mo my mp (va_up M 0 (0 : Int32)) mc, eH cI mh mhol, eO cI mo mof, eY cI my mdy, eP cJ mp mpd]) hD hS hA [0, 1, 2, 3, 4] rfl
      refine va_calli (va_runV (As := [.int 1]) (rest := []) ⟨hx, hb, hml, hown, hts⟩ (m_X5_no l D cI cJ cO hm mh mo my mp (va_up M 0 (0 : Int32)) mc mhol mof mdy mpd H.size 1 v7 hv7) (cwV 1 hts gX5_coupon__X5_no rfl rfl rfl (by decide +kernel) ⟨(Nat.le_of_ble_eq_true rfl), (Nat.le_of_ble_eq_true rfl)⟩) ⟨mp_blind, va_recv hK hP (ci := 4) (q0 := 0) rfl rfl, fun U hU hW => ⟨rfl, mp_at hZ hS hPc hK hDc hFc hU hW (Or.inr rfl)⟩⟩ rfl rfl hl.1 rfl (lv_room (Nat.le_of_ble_eq_true rfl)) dX5_coupon__51 ⟨(Nat.le_of_ble_eq_true rfl), (Nat.le_of_ble_eq_true rfl)⟩) hS (fun q _ h => hFc q h) hFc (fun rv7 u t H1 locs ht9 hvm hw hBx hz1 hk1 hS => ?_)
      subst hw
      obtain ⟨hP1, hD1⟩ := hBx
      rw [ht9] at hP1
      obtain ⟨hP, hD⟩ := va_join (wr := []) (w1 := [eM hm mh mo my mp v7.2 mc, eH cI mh mhol, eO cI mo mof, eY cI my mdy, eP cJ mp mpd]) hP hD [0, 1, 2, 3, 4] [] rfl rfl (by decide) (by decide) hk1 hFc hP1 hD1
      have hP := hP.sub (ws' := [eM hm mh mo my mp v7.2 mc, eH cI mh mhol, eO cI mo mof, eY cI my mdy, eP cJ mp mpd]) [0, 1, 2, 3, 4] rfl
      have hD := hD.sub (ws' := [eM hm mh mo my mp v7.2 mc, eH cI mh mhol, eO cI mo mof, eY cI my mdy, eP cJ mp mpd]) [0, 1, 2, 3, 4] (by decide) rfl
      generalize H1 = H at hP hS ⊢
      refine W.widen (k := 0) (n := 0) (Nat.le_of_ble_eq_true rfl) (Nat.le_of_ble_eq_true rfl) ?_
      have e9 := Option.some.inj hf
      subst e9
      exact W.iret hx hb hr (fun t ht hW => ⟨⟨_, (), rfl, rfl, by rw [ht]; exact hP, hD⟩, hS.F ht⟩) hS.2.2 dX5_coupon__54
    · have hf := ie hf c6
      refine lv_iload_n hx hb dX5_coupon__30 rfl (lv_at hl 3 rfl) ?_
      refine lv_iconst (v := 0) hx hb dX5_coupon__31 (by decide) ?_
      refine lv_iconst (v := 3) hx hb dX5_coupon__32 (by decide) ?_
      obtain ⟨v8, hv8, hf⟩ := ob hf
      refine cSz (W.runS (As := [.int a2, .int 0, .int 3]) (rest := []) ⟨hx, hb, hml, hown, hts⟩ (m_X5_isIn l D cI cJ cO a2 0 3 v8 hv8) (va_cwS 3 hts gX5_coupon__X5_isIn rfl rfl rfl (by decide +kernel) ⟨(Nat.le_of_ble_eq_true rfl), (Nat.le_of_ble_eq_true rfl)⟩) ⟨pw_blind, fun U hU hW => ⟨rfl, pw_at hZ hS hP hK hU hW (Or.inr rfl) [] rfl⟩⟩ rfl rfl hl.1 rfl (lv_room (Nat.le_of_ble_eq_true rfl)) dX5_coupon__33 ⟨(Nat.le_of_ble_eq_true rfl), (Nat.le_of_ble_eq_true rfl)⟩) (fun zv8 => ?_)
      refine lv_if_eq (tgt := 49) hx hb dX5_coupon__36 (by decide) (fun c9 => ?_) (fun c9 => ?_)
      · have hf := it hf c9
        refine lv_aload_n hx hb dX5_coupon__49 rfl (lv_at hl 0 rfl) ?_
        refine lv_iconst (v := 1) hx hb dX5_coupon__50 (by decide) ?_
        obtain ⟨v10, hv10, hf⟩ := ob hf
        have hPc := hP.sub (ws' := [eM hm mh mo my mp (va_up M 0 (0 : Int32)) mc, eH cI mh mhol, eO cI mo mof, eY cI my mdy, eP cJ mp mpd]) [0, 1, 2, 3, 4] rfl
        have hDc := hD.sub (ws' := [eM hm mh mo my mp (va_up M 0 (0 : Int32)) mc, eH cI mh mhol, eO cI mo mof, eY cI my mdy, eP cJ mp mpd]) [0, 1, 2, 3, 4] (by decide) rfl
        have hFc := va_free (wc := [eM hm mh mo my mp (va_up M 0 (0 : Int32)) mc, eH cI mh mhol, eO cI mo mof, eY cI my mdy, eP cJ mp mpd]) hD hS hA [0, 1, 2, 3, 4] rfl
        refine va_calli (va_runV (As := [.int 1]) (rest := []) ⟨hx, hb, hml, hown, hts⟩ (m_X5_no l D cI cJ cO hm mh mo my mp (va_up M 0 (0 : Int32)) mc mhol mof mdy mpd H.size 1 v10 hv10) (cwV 1 hts gX5_coupon__X5_no rfl rfl rfl (by decide +kernel) ⟨(Nat.le_of_ble_eq_true rfl), (Nat.le_of_ble_eq_true rfl)⟩) ⟨mp_blind, va_recv hK hP (ci := 4) (q0 := 0) rfl rfl, fun U hU hW => ⟨rfl, mp_at hZ hS hPc hK hDc hFc hU hW (Or.inr rfl)⟩⟩ rfl rfl hl.1 rfl (lv_room (Nat.le_of_ble_eq_true rfl)) dX5_coupon__51 ⟨(Nat.le_of_ble_eq_true rfl), (Nat.le_of_ble_eq_true rfl)⟩) hS (fun q _ h => hFc q h) hFc (fun rv10 u t H1 locs ht9 hvm hw hBx hz1 hk1 hS => ?_)
        subst hw
        obtain ⟨hP1, hD1⟩ := hBx
        rw [ht9] at hP1
        obtain ⟨hP, hD⟩ := va_join (wr := []) (w1 := [eM hm mh mo my mp v10.2 mc, eH cI mh mhol, eO cI mo mof, eY cI my mdy, eP cJ mp mpd]) hP hD [0, 1, 2, 3, 4] [] rfl rfl (by decide) (by decide) hk1 hFc hP1 hD1
        have hP := hP.sub (ws' := [eM hm mh mo my mp v10.2 mc, eH cI mh mhol, eO cI mo mof, eY cI my mdy, eP cJ mp mpd]) [0, 1, 2, 3, 4] rfl
        have hD := hD.sub (ws' := [eM hm mh mo my mp v10.2 mc, eH cI mh mhol, eO cI mo mof, eY cI my mdy, eP cJ mp mpd]) [0, 1, 2, 3, 4] (by decide) rfl
        generalize H1 = H at hP hS ⊢
        refine W.widen (k := 0) (n := 0) (Nat.le_of_ble_eq_true rfl) (Nat.le_of_ble_eq_true rfl) ?_
        have e9 := Option.some.inj hf
        subst e9
        exact W.iret hx hb hr (fun t ht hW => ⟨⟨_, (), rfl, rfl, by rw [ht]; exact hP, hD⟩, hS.F ht⟩) hS.2.2 dX5_coupon__54
      · have hf := ie hf c9
        refine lv_aload_n hx hb dX5_coupon__39 rfl (lv_at hl 0 rfl) ?_
        refine lv_iload_n hx hb dX5_coupon__40 rfl (lv_at hl 1 rfl) ?_
        refine lv_iload_n hx hb dX5_coupon__41 rfl (lv_at hl 2 rfl) ?_
        refine lv_iload_n hx hb dX5_coupon__42 rfl (lv_at hl 3 rfl) ?_
        obtain ⟨v11, hv11, hf⟩ := ob hf
        refine cSi (W.runV (As := [.int a0, .int a1, .int a2]) (rest := []) ⟨hx, hb, hml, hown, hts⟩ (m_X5_couponTold l D cI cJ cO hm mh mo my mp (va_up M 0 (0 : Int32)) mc mhol mof mdy mpd a0 a1 a2 N v11 hv11) (cwV 3 hts gX5_coupon__X5_couponTold rfl rfl rfl (by decide +kernel) ⟨(Nat.le_of_ble_eq_true rfl), (Nat.le_of_ble_eq_true rfl)⟩) ⟨pw_blind, va_recv hK hP (ci := 4) (q0 := 0) rfl rfl, fun U hU hW => ⟨rfl, pw_at hZ hS hP hK hU hW (Or.inr rfl) [0, 1, 2, 3, 4] rfl⟩⟩ rfl rfl hl.1 rfl (lv_room (Nat.le_of_ble_eq_true rfl)) dX5_coupon__43 ⟨(Nat.le_of_ble_eq_true rfl), (Nat.le_of_ble_eq_true rfl)⟩) ?_
        refine lv_goto (tgt := 54) hx hb dX5_coupon__46 (by decide) ?_
        refine W.widen (k := 0) (n := 0) (Nat.le_of_ble_eq_true rfl) (Nat.le_of_ble_eq_true rfl) ?_
        have e9 := Option.some.inj hf
        subst e9
        exact W.iret hx hb hr (fun t ht hW => ⟨⟨_, (), rfl, rfl, by rw [ht]; exact hP, hD⟩, hS.F ht⟩) hS.2.2 dX5_coupon__54
theorem inX5_accrued_X5 : ∀ w ∈ wsX50, w ∈ wsX5_accrued := by decide +kernel
set_option maxHeartbeats 4000000 in
set_option maxRecDepth 100000 in
theorem m_X5_accrued (l : Launch) (D : va_G) (cI cJ cO : ClassId) (hm : Nat) (mh : Nat) (mo : Nat) (my : Nat) (mp : Nat) (M : Nat → Int32) (mc : Int64) (mhol : Nat → Int32) (mof : Nat → Int32) (mdy : Nat → Int32) (mpd : Nat → Int64) (sz : Nat) (a0 : Int32) (a1 : Int32) (N : Nat) (r : Int32 × (Nat → Int32)) (hf : f_X5_accrued N M mof mdy a0 a1 = some r) : Met l yX5_accrued wsX5_accrued ({ frames := 4, cells := 0, slots := 0, locals := 94 }) (va_Pc [.ref hm, .int a0, .int a1] (mP D (ty3 cI cJ cO) none [eM hm mh mo my mp M mc, eH cI mh mhol, eO cI mo mof, eY cI my mdy, eP cJ mp mpd] sz)) (mQi D (va_A [eM hm mh mo my mp M mc, eH cI mh mhol, eO cI mo mof, eY cI my mdy, eP cJ mp mpd] sz) r.1 [eM hm mh mo my mp r.2 mc, eH cI mh mhol, eO cI mo mof, eY cI my mdy, eP cJ mp mpd]) 0 0 (va_A [eM hm mh mo my mp M mc, eH cI mh mhol, eO cI mo mof, eY cI my mdy, eP cJ mp mpd] sz) := by
  refine Met.ofW (cc := cX5_accrued) (maxL := 3) (ret := (some .int)) (by decide) rfl ?_
  intro p e s m args below meth c s₁ Bd hml hv
  obtain ⟨rfl, hsz, hZ, hP, hK, hD0⟩ := hv
  have hx := Bd.exec
  have hb := Bd.bytes
  have hr := Bd.returns
  have hts := atoms_spec (ws := wsX5_accrued) Bd.pre
  have hown : s.vm.findClass RX5 = some m.cls := findClass_of_methodNamed Bd.named
  have hlocks := Bd.notSynchronized
  subst hsz
  have hD := hD0.self (sz := s.heap.size)
  generalize hAe : va_A [eM hm mh mo my mp M mc, eH cI mh mhol, eO cI mo mof, eY cI my mdy, eP cJ mp mpd] s.heap.size = A at hD hZ ⊢
  have hA : ∀ q : Nat, s.heap.size ≤ q → A q := fun q h => by rw [← hAe]; exact Or.inr h
  have hS : va_S A s.heap s.heap [] := va_S.rf
  have hl := lv_entry ([.ref hm, .int a0, .int a1]) (n := 3) (Nat.le_of_ble_eq_true rfl)
  rw [lg_entry_eq]
  generalize (lg_sl ([.ref hm, .int a0, .int a1]) ++ List.replicate (3 - (lg_sl ([.ref hm, .int a0, .int a1])).length) Slot.unset).toArray = ls at hl ⊢
  have hl : lv_has ls 3 [(0, .ref hm), (1, .int a0), (2, .int a1)] := hl
  unfold f_X5_accrued at hf
  refine lv_aload_n hx hb dX5_accrued_0 rfl (lv_at hl 0 rfl) ?_
  refine lv_iconst (v := 0) hx hb dX5_accrued_1 (by decide) ?_
  refine va_put (D := D) (ci := 4) (v := .int 0) (ty := .int) (C := RX5) (T := TX5) (N := 10) hx hb hts inX5_accrued_X5 tyX5 tyX5_ok nmX5 hown hK hP hD hS 0 rfl rfl 0 (by decide) (hts (.fieldLink RX5 41 "BondDeskModel" "thrown" "I") (by decide +kernel)) (fun _ h9 => h9) rfl (by decide +kernel) rfl rfl (Nat.le_of_ble_eq_true rfl) dX5_accrued_2 (fun H locs hP hD hS => ?_)
  have hP : va_P D vwCl [eM hm mh mo my mp (va_up M 0 (0 : Int32)) mc, eH cI mh mhol, eO cI mo mof, eY cI my mdy, eP cJ mp mpd] H := hP
  have hD : va_D A [eM hm mh mo my mp (va_up M 0 (0 : Int32)) mc, eH cI mh mhol, eO cI mo mof, eY cI my mdy, eP cJ mp mpd] := hD
  refine lv_aload_n hx hb dX5_accrued_5 rfl (lv_at hl 0 rfl) ?_
  refine lv_iload_n hx hb dX5_accrued_6 rfl (lv_at hl 1 rfl) ?_
  obtain ⟨v1, hv1, hf⟩ := ob hf
  refine cSz (W.runV (As := [.int a0]) (rest := []) ⟨hx, hb, hml, hown, hts⟩ (m_X5_isBond l D cI cJ cO hm mh mo my mp (va_up M 0 (0 : Int32)) mc mhol mof mdy mpd a0 v1 hv1) (cwV 1 hts gX5_accrued_X5_isBond rfl rfl rfl (by decide +kernel) ⟨(Nat.le_of_ble_eq_true rfl), (Nat.le_of_ble_eq_true rfl)⟩) ⟨pw_blind, va_recv hK hP (ci := 4) (q0 := 0) rfl rfl, fun U hU hW => ⟨rfl, pw_at hZ hS hP hK hU hW (Or.inr rfl) [0, 1, 2, 3, 4] rfl⟩⟩ rfl rfl hl.1 rfl (lv_room (Nat.le_of_ble_eq_true rfl)) dX5_accrued_7 ⟨(Nat.le_of_ble_eq_true rfl), (Nat.le_of_ble_eq_true rfl)⟩) (fun zv1 => ?_)
  refine lv_if_ne (tgt := 19) hx hb dX5_accrued_10 (by decide) (fun c2 => ?_) (fun c2 => ?_)
  · have hf := ie hf c2
    refine lv_iload_n hx hb dX5_accrued_19 rfl (lv_at hl 2 rfl) ?_
    obtain ⟨v3, hv3, hf⟩ := ob hf
    refine cSz (W.runS (As := [.int a1]) (rest := []) ⟨hx, hb, hml, hown, hts⟩ (m_X5_isDate l D cI cJ cO a1 v3 hv3) (va_cwS 1 hts gX5_accrued_X5_isDate rfl rfl rfl (by decide +kernel) ⟨(Nat.le_of_ble_eq_true rfl), (Nat.le_of_ble_eq_true rfl)⟩) ⟨pw_blind, fun U hU hW => ⟨rfl, pw_at hZ hS hP hK hU hW (Or.inr rfl) [] rfl⟩⟩ rfl rfl hl.1 rfl (lv_room (Nat.le_of_ble_eq_true rfl)) dX5_accrued_20 ⟨(Nat.le_of_ble_eq_true rfl), (Nat.le_of_ble_eq_true rfl)⟩) (fun zv3 => ?_)
    refine lv_if_eq (tgt := 38) hx hb dX5_accrued_23 (by decide) (fun c4 => ?_) (fun c4 => ?_)
    · have hf := it hf c4
      refine lv_aload_n hx hb dX5_accrued_38 rfl (lv_at hl 0 rfl) ?_
      refine lv_iconst (v := 2) hx hb dX5_accrued_39 (by decide) ?_
      obtain ⟨v5, hv5, hf⟩ := ob hf
      have hPc := hP.sub (ws' := [eM hm mh mo my mp (va_up M 0 (0 : Int32)) mc, eH cI mh mhol, eO cI mo mof, eY cI my mdy, eP cJ mp mpd]) [0, 1, 2, 3, 4] rfl
      have hDc := hD.sub (ws' := [eM hm mh mo my mp (va_up M 0 (0 : Int32)) mc, eH cI mh mhol, eO cI mo mof, eY cI my mdy, eP cJ mp mpd]) [0, 1, 2, 3, 4] (by decide) rfl
      have hFc := va_free (wc := [eM hm mh mo my mp (va_up M 0 (0 : Int32)) mc, eH cI mh mhol, eO cI mo mof, eY cI my mdy, eP cJ mp mpd]) hD hS hA [0, 1, 2, 3, 4] rfl
      refine va_calli (va_runV (As := [.int 2]) (rest := []) ⟨hx, hb, hml, hown, hts⟩ (m_X5_no l D cI cJ cO hm mh mo my mp (va_up M 0 (0 : Int32)) mc mhol mof mdy mpd H.size 2 v5 hv5) (cwV 1 hts gX5_accrued_X5_no rfl rfl rfl (by decide +kernel) ⟨(Nat.le_of_ble_eq_true rfl), (Nat.le_of_ble_eq_true rfl)⟩) ⟨mp_blind, va_recv hK hP (ci := 4) (q0 := 0) rfl rfl, fun U hU hW => ⟨rfl, mp_at hZ hS hPc hK hDc hFc hU hW (Or.inr rfl)⟩⟩ rfl rfl hl.1 rfl (lv_room (Nat.le_of_ble_eq_true rfl)) dX5_accrued_40 ⟨(Nat.le_of_ble_eq_true rfl), (Nat.le_of_ble_eq_true rfl)⟩) hS (fun q _ h => hFc q h) hFc (fun rv5 u t H1 locs ht9 hvm hw hBx hz1 hk1 hS => ?_)
      subst hw
      obtain ⟨hP1, hD1⟩ := hBx
      rw [ht9] at hP1
      obtain ⟨hP, hD⟩ := va_join (wr := []) (w1 := [eM hm mh mo my mp v5.2 mc, eH cI mh mhol, eO cI mo mof, eY cI my mdy, eP cJ mp mpd]) hP hD [0, 1, 2, 3, 4] [] rfl rfl (by decide) (by decide) hk1 hFc hP1 hD1
      have hP := hP.sub (ws' := [eM hm mh mo my mp v5.2 mc, eH cI mh mhol, eO cI mo mof, eY cI my mdy, eP cJ mp mpd]) [0, 1, 2, 3, 4] rfl
      have hD := hD.sub (ws' := [eM hm mh mo my mp v5.2 mc, eH cI mh mhol, eO cI mo mof, eY cI my mdy, eP cJ mp mpd]) [0, 1, 2, 3, 4] (by decide) rfl
      generalize H1 = H at hP hS ⊢
      refine W.widen (k := 0) (n := 0) (Nat.le_of_ble_eq_true rfl) (Nat.le_of_ble_eq_true rfl) ?_
      have e9 := Option.some.inj hf
      subst e9
      exact W.iret hx hb hr (fun t ht hW => ⟨⟨_, (), rfl, rfl, by rw [ht]; exact hP, hD⟩, hS.F ht⟩) hS.2.2 dX5_accrued_43
    · have hf := ie hf c4
      refine lv_aload_n hx hb dX5_accrued_26 rfl (lv_at hl 0 rfl) ?_
      refine lv_iload_n hx hb dX5_accrued_27 rfl (lv_at hl 1 rfl) ?_
      refine lv_iload_n hx hb dX5_accrued_28 rfl (lv_at hl 2 rfl) ?_
      obtain ⟨v6, hv6, hf⟩ := ob hf
      refine cSi (W.runS (As := [.int a1]) (rest := [.int a0, .ref hm]) ⟨hx, hb, hml, hown, hts⟩ (m_X5_number l D cI cJ cO a1 N v6 hv6) (va_cwS 1 hts gX5_accrued_X5_number rfl rfl rfl (by decide +kernel) ⟨(Nat.le_of_ble_eq_true rfl), (Nat.le_of_ble_eq_true rfl)⟩) ⟨pw_blind, fun U hU hW => ⟨rfl, pw_at hZ hS hP hK hU hW (Or.inr rfl) [] rfl⟩⟩ rfl rfl hl.1 rfl (lv_room (Nat.le_of_ble_eq_true rfl)) dX5_accrued_29 ⟨(Nat.le_of_ble_eq_true rfl), (Nat.le_of_ble_eq_true rfl)⟩) ?_
      obtain ⟨v7, hv7, hf⟩ := ob hf
      refine cSi (W.runV (As := [.int a0, .int v6]) (rest := []) ⟨hx, hb, hml, hown, hts⟩ (m_X5_accruedOn l D cI cJ cO hm mh mo my mp (va_up M 0 (0 : Int32)) mc mhol mof mdy mpd a0 v6 N v7 hv7) (cwV 2 hts gX5_accrued_X5_accruedOn rfl rfl rfl (by decide +kernel) ⟨(Nat.le_of_ble_eq_true rfl), (Nat.le_of_ble_eq_true rfl)⟩) ⟨pw_blind, va_recv hK hP (ci := 4) (q0 := 0) rfl rfl, fun U hU hW => ⟨rfl, pw_at hZ hS hP hK hU hW (Or.inr rfl) [0, 1, 2, 3, 4] rfl⟩⟩ rfl rfl hl.1 rfl (lv_room (Nat.le_of_ble_eq_true rfl)) dX5_accrued_32 ⟨(Nat.le_of_ble_eq_true rfl), (Nat.le_of_ble_eq_true rfl)⟩) ?_
      refine lv_goto (tgt := 43) hx hb dX5_accrued_35 (by decide) ?_
      refine W.widen (k := 0) (n := 0) (Nat.le_of_ble_eq_true rfl) (Nat.le_of_ble_eq_true rfl) ?_
      have e9 := Option.some.inj hf
      subst e9
      exact W.iret hx hb hr (fun t ht hW => ⟨⟨_, (), rfl, rfl, by rw [ht]; exact hP, hD⟩, hS.F ht⟩) hS.2.2 dX5_accrued_43
  · have hf := it hf c2
    refine lv_aload_n hx hb dX5_accrued_13 rfl (lv_at hl 0 rfl) ?_
    refine lv_iconst (v := 1) hx hb dX5_accrued_14 (by decide) ?_
    obtain ⟨v8, hv8, hf⟩ := ob hf
    have hPc := hP.sub (ws' := [eM hm mh mo my mp (va_up M 0 (0 : Int32)) mc, eH cI mh mhol, eO cI mo mof, eY cI my mdy, eP cJ mp mpd]) [0, 1, 2, 3, 4] rfl
    have hDc := hD.sub (ws' := [eM hm mh mo my mp (va_up M 0 (0 : Int32)) mc, eH cI mh mhol, eO cI mo mof, eY cI my mdy, eP cJ mp mpd]) [0, 1, 2, 3, 4] (by decide) rfl
    have hFc := va_free (wc := [eM hm mh mo my mp (va_up M 0 (0 : Int32)) mc, eH cI mh mhol, eO cI mo mof, eY cI my mdy, eP cJ mp mpd]) hD hS hA [0, 1, 2, 3, 4] rfl
    refine va_calli (va_runV (As := [.int 1]) (rest := []) ⟨hx, hb, hml, hown, hts⟩ (m_X5_no l D cI cJ cO hm mh mo my mp (va_up M 0 (0 : Int32)) mc mhol mof mdy mpd H.size 1 v8 hv8) (cwV 1 hts gX5_accrued_X5_no rfl rfl rfl (by decide +kernel) ⟨(Nat.le_of_ble_eq_true rfl), (Nat.le_of_ble_eq_true rfl)⟩) ⟨mp_blind, va_recv hK hP (ci := 4) (q0 := 0) rfl rfl, fun U hU hW => ⟨rfl, mp_at hZ hS hPc hK hDc hFc hU hW (Or.inr rfl)⟩⟩ rfl rfl hl.1 rfl (lv_room (Nat.le_of_ble_eq_true rfl)) dX5_accrued_15 ⟨(Nat.le_of_ble_eq_true rfl), (Nat.le_of_ble_eq_true rfl)⟩) hS (fun q _ h => hFc q h) hFc (fun rv8 u t H1 locs ht9 hvm hw hBx hz1 hk1 hS => ?_)
    subst hw
    obtain ⟨hP1, hD1⟩ := hBx
    rw [ht9] at hP1
    obtain ⟨hP, hD⟩ := va_join (wr := []) (w1 := [eM hm mh mo my mp v8.2 mc, eH cI mh mhol, eO cI mo mof, eY cI my mdy, eP cJ mp mpd]) hP hD [0, 1, 2, 3, 4] [] rfl rfl (by decide) (by decide) hk1 hFc hP1 hD1
    have hP := hP.sub (ws' := [eM hm mh mo my mp v8.2 mc, eH cI mh mhol, eO cI mo mof, eY cI my mdy, eP cJ mp mpd]) [0, 1, 2, 3, 4] rfl
    have hD := hD.sub (ws' := [eM hm mh mo my mp v8.2 mc, eH cI mh mhol, eO cI mo mof, eY cI my mdy, eP cJ mp mpd]) [0, 1, 2, 3, 4] (by decide) rfl
    generalize H1 = H at hP hS ⊢
    refine W.widen (k := 0) (n := 0) (Nat.le_of_ble_eq_true rfl) (Nat.le_of_ble_eq_true rfl) ?_
    have e9 := Option.some.inj hf
    subst e9
    exact W.iret hx hb hr (fun t ht hW => ⟨⟨_, (), rfl, rfl, by rw [ht]; exact hP, hD⟩, hS.F ht⟩) hS.2.2 dX5_accrued_18
theorem inX5_worth_X5 : ∀ w ∈ wsX50, w ∈ wsX5_worth := by decide +kernel
set_option maxHeartbeats 4000000 in
set_option maxRecDepth 100000 in
theorem m_X5_worth (l : Launch) (D : va_G) (cI cJ cO : ClassId) (hm : Nat) (mh : Nat) (mo : Nat) (my : Nat) (mp : Nat) (M : Nat → Int32) (mc : Int64) (mhol : Nat → Int32) (mof : Nat → Int32) (mdy : Nat → Int32) (mpd : Nat → Int64) (sz : Nat) (a0 : Int32) (a1 : Int32) (N : Nat) (r : Int32 × (Nat → Int32)) (hf : f_X5_worth N M mof mdy a0 a1 = some r) : Met l yX5_worth wsX5_worth ({ frames := 6, cells := 0, slots := 0, locals := 151 }) (va_Pc [.ref hm, .int a0, .int a1] (mP D (ty3 cI cJ cO) none [eM hm mh mo my mp M mc, eH cI mh mhol, eO cI mo mof, eY cI my mdy, eP cJ mp mpd] sz)) (mQi D (va_A [eM hm mh mo my mp M mc, eH cI mh mhol, eO cI mo mof, eY cI my mdy, eP cJ mp mpd] sz) r.1 [eM hm mh mo my mp r.2 mc, eH cI mh mhol, eO cI mo mof, eY cI my mdy, eP cJ mp mpd]) 0 0 (va_A [eM hm mh mo my mp M mc, eH cI mh mhol, eO cI mo mof, eY cI my mdy, eP cJ mp mpd] sz) := by
  refine Met.ofW (cc := cX5_worth) (maxL := 3) (ret := (some .int)) (by decide) rfl ?_
  intro p e s m args below meth c s₁ Bd hml hv
  obtain ⟨rfl, hsz, hZ, hP, hK, hD0⟩ := hv
  have hx := Bd.exec
  have hb := Bd.bytes
  have hr := Bd.returns
  have hts := atoms_spec (ws := wsX5_worth) Bd.pre
  have hown : s.vm.findClass RX5 = some m.cls := findClass_of_methodNamed Bd.named
  have hlocks := Bd.notSynchronized
  subst hsz
  have hD := hD0.self (sz := s.heap.size)
  generalize hAe : va_A [eM hm mh mo my mp M mc, eH cI mh mhol, eO cI mo mof, eY cI my mdy, eP cJ mp mpd] s.heap.size = A at hD hZ ⊢
  have hA : ∀ q : Nat, s.heap.size ≤ q → A q := fun q h => by rw [← hAe]; exact Or.inr h
  have hS : va_S A s.heap s.heap [] := va_S.rf
  have hl := lv_entry ([.ref hm, .int a0, .int a1]) (n := 3) (Nat.le_of_ble_eq_true rfl)
  rw [lg_entry_eq]
  generalize (lg_sl ([.ref hm, .int a0, .int a1]) ++ List.replicate (3 - (lg_sl ([.ref hm, .int a0, .int a1])).length) Slot.unset).toArray = ls at hl ⊢
  have hl : lv_has ls 3 [(0, .ref hm), (1, .int a0), (2, .int a1)] := hl
  unfold f_X5_worth at hf
  refine lv_aload_n hx hb dX5_worth_0 rfl (lv_at hl 0 rfl) ?_
  refine lv_iconst (v := 0) hx hb dX5_worth_1 (by decide) ?_
  refine va_put (D := D) (ci := 4) (v := .int 0) (ty := .int) (C := RX5) (T := TX5) (N := 10) hx hb hts inX5_worth_X5 tyX5 tyX5_ok nmX5 hown hK hP hD hS 0 rfl rfl 0 (by decide) (hts (.fieldLink RX5 41 "BondDeskModel" "thrown" "I") (by decide +kernel)) (fun _ h9 => h9) rfl (by decide +kernel) rfl rfl (Nat.le_of_ble_eq_true rfl) dX5_worth_2 (fun H locs hP hD hS => ?_)
  have hP : va_P D vwCl [eM hm mh mo my mp (va_up M 0 (0 : Int32)) mc, eH cI mh mhol, eO cI mo mof, eY cI my mdy, eP cJ mp mpd] H := hP
  have hD : va_D A [eM hm mh mo my mp (va_up M 0 (0 : Int32)) mc, eH cI mh mhol, eO cI mo mof, eY cI my mdy, eP cJ mp mpd] := hD
  refine lv_aload_n hx hb dX5_worth_5 rfl (lv_at hl 0 rfl) ?_
  refine lv_iload_n hx hb dX5_worth_6 rfl (lv_at hl 1 rfl) ?_
  obtain ⟨v1, hv1, hf⟩ := ob hf
  refine cSz (W.runV (As := [.int a0]) (rest := []) ⟨hx, hb, hml, hown, hts⟩ (m_X5_isBond l D cI cJ cO hm mh mo my mp (va_up M 0 (0 : Int32)) mc mhol mof mdy mpd a0 v1 hv1) (cwV 1 hts gX5_worth_X5_isBond rfl rfl rfl (by decide +kernel) ⟨(Nat.le_of_ble_eq_true rfl), (Nat.le_of_ble_eq_true rfl)⟩) ⟨pw_blind, va_recv hK hP (ci := 4) (q0 := 0) rfl rfl, fun U hU hW => ⟨rfl, pw_at hZ hS hP hK hU hW (Or.inr rfl) [0, 1, 2, 3, 4] rfl⟩⟩ rfl rfl hl.1 rfl (lv_room (Nat.le_of_ble_eq_true rfl)) dX5_worth_7 ⟨(Nat.le_of_ble_eq_true rfl), (Nat.le_of_ble_eq_true rfl)⟩) (fun zv1 => ?_)
  refine lv_if_ne (tgt := 19) hx hb dX5_worth_10 (by decide) (fun c2 => ?_) (fun c2 => ?_)
  · have hf := ie hf c2
    refine lv_iload_n hx hb dX5_worth_19 rfl (lv_at hl 2 rfl) ?_
    refine lv_iconst (v := 0) hx hb dX5_worth_20 (by decide) ?_
    refine lv_sipush (v := 5000) hx hb dX5_worth_21 (by decide) ?_
    obtain ⟨v3, hv3, hf⟩ := ob hf
    refine cSz (W.runS (As := [.int a1, .int 0, .int 5000]) (rest := []) ⟨hx, hb, hml, hown, hts⟩ (m_X5_isIn l D cI cJ cO a1 0 5000 v3 hv3) (va_cwS 3 hts gX5_worth_X5_isIn rfl rfl rfl (by decide +kernel) ⟨(Nat.le_of_ble_eq_true rfl), (Nat.le_of_ble_eq_true rfl)⟩) ⟨pw_blind, fun U hU hW => ⟨rfl, pw_at hZ hS hP hK hU hW (Or.inr rfl) [] rfl⟩⟩ rfl rfl hl.1 rfl (lv_room (Nat.le_of_ble_eq_true rfl)) dX5_worth_24 ⟨(Nat.le_of_ble_eq_true rfl), (Nat.le_of_ble_eq_true rfl)⟩) (fun zv3 => ?_)
    refine lv_if_eq (tgt := 40) hx hb dX5_worth_27 (by decide) (fun c4 => ?_) (fun c4 => ?_)
    · have hf := it hf c4
      refine lv_aload_n hx hb dX5_worth_40 rfl (lv_at hl 0 rfl) ?_
      refine lv_iconst (v := 2) hx hb dX5_worth_41 (by decide) ?_
      obtain ⟨v5, hv5, hf⟩ := ob hf
      have hPc := hP.sub (ws' := [eM hm mh mo my mp (va_up M 0 (0 : Int32)) mc, eH cI mh mhol, eO cI mo mof, eY cI my mdy, eP cJ mp mpd]) [0, 1, 2, 3, 4] rfl
      have hDc := hD.sub (ws' := [eM hm mh mo my mp (va_up M 0 (0 : Int32)) mc, eH cI mh mhol, eO cI mo mof, eY cI my mdy, eP cJ mp mpd]) [0, 1, 2, 3, 4] (by decide) rfl
      have hFc := va_free (wc := [eM hm mh mo my mp (va_up M 0 (0 : Int32)) mc, eH cI mh mhol, eO cI mo mof, eY cI my mdy, eP cJ mp mpd]) hD hS hA [0, 1, 2, 3, 4] rfl
      refine va_calli (va_runV (As := [.int 2]) (rest := []) ⟨hx, hb, hml, hown, hts⟩ (m_X5_no l D cI cJ cO hm mh mo my mp (va_up M 0 (0 : Int32)) mc mhol mof mdy mpd H.size 2 v5 hv5) (cwV 1 hts gX5_worth_X5_no rfl rfl rfl (by decide +kernel) ⟨(Nat.le_of_ble_eq_true rfl), (Nat.le_of_ble_eq_true rfl)⟩) ⟨mp_blind, va_recv hK hP (ci := 4) (q0 := 0) rfl rfl, fun U hU hW => ⟨rfl, mp_at hZ hS hPc hK hDc hFc hU hW (Or.inr rfl)⟩⟩ rfl rfl hl.1 rfl (lv_room (Nat.le_of_ble_eq_true rfl)) dX5_worth_42 ⟨(Nat.le_of_ble_eq_true rfl), (Nat.le_of_ble_eq_true rfl)⟩) hS (fun q _ h => hFc q h) hFc (fun rv5 u t H1 locs ht9 hvm hw hBx hz1 hk1 hS => ?_)
      subst hw
      obtain ⟨hP1, hD1⟩ := hBx
      rw [ht9] at hP1
      obtain ⟨hP, hD⟩ := va_join (wr := []) (w1 := [eM hm mh mo my mp v5.2 mc, eH cI mh mhol, eO cI mo mof, eY cI my mdy, eP cJ mp mpd]) hP hD [0, 1, 2, 3, 4] [] rfl rfl (by decide) (by decide) hk1 hFc hP1 hD1
      have hP := hP.sub (ws' := [eM hm mh mo my mp v5.2 mc, eH cI mh mhol, eO cI mo mof, eY cI my mdy, eP cJ mp mpd]) [0, 1, 2, 3, 4] rfl
      have hD := hD.sub (ws' := [eM hm mh mo my mp v5.2 mc, eH cI mh mhol, eO cI mo mof, eY cI my mdy, eP cJ mp mpd]) [0, 1, 2, 3, 4] (by decide) rfl
      generalize H1 = H at hP hS ⊢
      refine W.widen (k := 0) (n := 0) (Nat.le_of_ble_eq_true rfl) (Nat.le_of_ble_eq_true rfl) ?_
      have e9 := Option.some.inj hf
      subst e9
      exact W.iret hx hb hr (fun t ht hW => ⟨⟨_, (), rfl, rfl, by rw [ht]; exact hP, hD⟩, hS.F ht⟩) hS.2.2 dX5_worth_45
    · have hf := ie hf c4
      refine lv_aload_n hx hb dX5_worth_30 rfl (lv_at hl 0 rfl) ?_
      refine lv_iload_n hx hb dX5_worth_31 rfl (lv_at hl 1 rfl) ?_
      refine lv_iload_n hx hb dX5_worth_32 rfl (lv_at hl 2 rfl) ?_
      obtain ⟨v6, hv6, hf⟩ := ob hf
      refine cSl (W.runV (As := [.int a0, .int a1]) (rest := []) ⟨hx, hb, hml, hown, hts⟩ (m_X5_worthNow l D cI cJ cO hm mh mo my mp (va_up M 0 (0 : Int32)) mc mhol mof mdy mpd a0 a1 N v6 hv6) (cwV 2 hts gX5_worth_X5_worthNow rfl rfl rfl (by decide +kernel) ⟨(Nat.le_of_ble_eq_true rfl), (Nat.le_of_ble_eq_true rfl)⟩) ⟨pw_blind, va_recv hK hP (ci := 4) (q0 := 0) rfl rfl, fun U hU hW => ⟨rfl, pw_at hZ hS hP hK hU hW (Or.inr rfl) [0, 1, 2, 3, 4] rfl⟩⟩ rfl rfl hl.1 rfl (lv_room (Nat.le_of_ble_eq_true rfl)) dX5_worth_33 ⟨(Nat.le_of_ble_eq_true rfl), (Nat.le_of_ble_eq_true rfl)⟩) ?_
      refine lv_l2i hx hb dX5_worth_36 rfl ?_
      refine lv_goto (tgt := 45) hx hb dX5_worth_37 (by decide) ?_
      refine W.widen (k := 0) (n := 0) (Nat.le_of_ble_eq_true rfl) (Nat.le_of_ble_eq_true rfl) ?_
      have e9 := Option.some.inj hf
      subst e9
      exact W.iret hx hb hr (fun t ht hW => ⟨⟨_, (), rfl, rfl, by rw [ht]; exact hP, hD⟩, hS.F ht⟩) hS.2.2 dX5_worth_45
  · have hf := it hf c2
    refine lv_aload_n hx hb dX5_worth_13 rfl (lv_at hl 0 rfl) ?_
    refine lv_iconst (v := 1) hx hb dX5_worth_14 (by decide) ?_
    obtain ⟨v7, hv7, hf⟩ := ob hf
    have hPc := hP.sub (ws' := [eM hm mh mo my mp (va_up M 0 (0 : Int32)) mc, eH cI mh mhol, eO cI mo mof, eY cI my mdy, eP cJ mp mpd]) [0, 1, 2, 3, 4] rfl
    have hDc := hD.sub (ws' := [eM hm mh mo my mp (va_up M 0 (0 : Int32)) mc, eH cI mh mhol, eO cI mo mof, eY cI my mdy, eP cJ mp mpd]) [0, 1, 2, 3, 4] (by decide) rfl
    have hFc := va_free (wc := [eM hm mh mo my mp (va_up M 0 (0 : Int32)) mc, eH cI mh mhol, eO cI mo mof, eY cI my mdy, eP cJ mp mpd]) hD hS hA [0, 1, 2, 3, 4] rfl
    refine va_calli (va_runV (As := [.int 1]) (rest := []) ⟨hx, hb, hml, hown, hts⟩ (m_X5_no l D cI cJ cO hm mh mo my mp (va_up M 0 (0 : Int32)) mc mhol mof mdy mpd H.size 1 v7 hv7) (cwV 1 hts gX5_worth_X5_no rfl rfl rfl (by decide +kernel) ⟨(Nat.le_of_ble_eq_true rfl), (Nat.le_of_ble_eq_true rfl)⟩) ⟨mp_blind, va_recv hK hP (ci := 4) (q0 := 0) rfl rfl, fun U hU hW => ⟨rfl, mp_at hZ hS hPc hK hDc hFc hU hW (Or.inr rfl)⟩⟩ rfl rfl hl.1 rfl (lv_room (Nat.le_of_ble_eq_true rfl)) dX5_worth_15 ⟨(Nat.le_of_ble_eq_true rfl), (Nat.le_of_ble_eq_true rfl)⟩) hS (fun q _ h => hFc q h) hFc (fun rv7 u t H1 locs ht9 hvm hw hBx hz1 hk1 hS => ?_)
    subst hw
    obtain ⟨hP1, hD1⟩ := hBx
    rw [ht9] at hP1
    obtain ⟨hP, hD⟩ := va_join (wr := []) (w1 := [eM hm mh mo my mp v7.2 mc, eH cI mh mhol, eO cI mo mof, eY cI my mdy, eP cJ mp mpd]) hP hD [0, 1, 2, 3, 4] [] rfl rfl (by decide) (by decide) hk1 hFc hP1 hD1
    have hP := hP.sub (ws' := [eM hm mh mo my mp v7.2 mc, eH cI mh mhol, eO cI mo mof, eY cI my mdy, eP cJ mp mpd]) [0, 1, 2, 3, 4] rfl
    have hD := hD.sub (ws' := [eM hm mh mo my mp v7.2 mc, eH cI mh mhol, eO cI mo mof, eY cI my mdy, eP cJ mp mpd]) [0, 1, 2, 3, 4] (by decide) rfl
    generalize H1 = H at hP hS ⊢
    refine W.widen (k := 0) (n := 0) (Nat.le_of_ble_eq_true rfl) (Nat.le_of_ble_eq_true rfl) ?_
    have e9 := Option.some.inj hf
    subst e9
    exact W.iret hx hb hr (fun t ht hW => ⟨⟨_, (), rfl, rfl, by rw [ht]; exact hP, hD⟩, hS.F ht⟩) hS.2.2 dX5_worth_18
theorem inX5_yields_X5 : ∀ w ∈ wsX50, w ∈ wsX5_yields := by decide +kernel
set_option maxHeartbeats 4000000 in
set_option maxRecDepth 100000 in
theorem m_X5_yields (l : Launch) (D : va_G) (cI cJ cO : ClassId) (hm : Nat) (mh : Nat) (mo : Nat) (my : Nat) (mp : Nat) (M : Nat → Int32) (mc : Int64) (mhol : Nat → Int32) (mof : Nat → Int32) (mdy : Nat → Int32) (mpd : Nat → Int64) (sz : Nat) (a0 : Int32) (a1 : Int32) (N : Nat) (r : Int32 × (Nat → Int32)) (hf : f_X5_yields N M mof mdy a0 a1 = some r) : Met l yX5_yields wsX5_yields ({ frames := 7, cells := 0, slots := 0, locals := 178 }) (va_Pc [.ref hm, .int a0, .int a1] (mP D (ty3 cI cJ cO) none [eM hm mh mo my mp M mc, eH cI mh mhol, eO cI mo mof, eY cI my mdy, eP cJ mp mpd] sz)) (mQi D (va_A [eM hm mh mo my mp M mc, eH cI mh mhol, eO cI mo mof, eY cI my mdy, eP cJ mp mpd] sz) r.1 [eM hm mh mo my mp r.2 mc, eH cI mh mhol, eO cI mo mof, eY cI my mdy, eP cJ mp mpd]) 0 0 (va_A [eM hm mh mo my mp M mc, eH cI mh mhol, eO cI mo mof, eY cI my mdy, eP cJ mp mpd] sz) := by
  refine Met.ofW (cc := cX5_yields) (maxL := 3) (ret := (some .int)) (by decide) rfl ?_
  intro p e s m args below meth c s₁ Bd hml hv
  obtain ⟨rfl, hsz, hZ, hP, hK, hD0⟩ := hv
  have hx := Bd.exec
  have hb := Bd.bytes
  have hr := Bd.returns
  have hts := atoms_spec (ws := wsX5_yields) Bd.pre
  have hown : s.vm.findClass RX5 = some m.cls := findClass_of_methodNamed Bd.named
  have hlocks := Bd.notSynchronized
  subst hsz
  have hD := hD0.self (sz := s.heap.size)
  generalize hAe : va_A [eM hm mh mo my mp M mc, eH cI mh mhol, eO cI mo mof, eY cI my mdy, eP cJ mp mpd] s.heap.size = A at hD hZ ⊢
  have hA : ∀ q : Nat, s.heap.size ≤ q → A q := fun q h => by rw [← hAe]; exact Or.inr h
  have hS : va_S A s.heap s.heap [] := va_S.rf
  have hl := lv_entry ([.ref hm, .int a0, .int a1]) (n := 3) (Nat.le_of_ble_eq_true rfl)
  rw [lg_entry_eq]
  generalize (lg_sl ([.ref hm, .int a0, .int a1]) ++ List.replicate (3 - (lg_sl ([.ref hm, .int a0, .int a1])).length) Slot.unset).toArray = ls at hl ⊢
  have hl : lv_has ls 3 [(0, .ref hm), (1, .int a0), (2, .int a1)] := hl
  unfold f_X5_yields at hf
  refine lv_aload_n hx hb dX5_yields_0 rfl (lv_at hl 0 rfl) ?_
  refine lv_iconst (v := 0) hx hb dX5_yields_1 (by decide) ?_
  refine va_put (D := D) (ci := 4) (v := .int 0) (ty := .int) (C := RX5) (T := TX5) (N := 10) hx hb hts inX5_yields_X5 tyX5 tyX5_ok nmX5 hown hK hP hD hS 0 rfl rfl 0 (by decide) (hts (.fieldLink RX5 41 "BondDeskModel" "thrown" "I") (by decide +kernel)) (fun _ h9 => h9) rfl (by decide +kernel) rfl rfl (Nat.le_of_ble_eq_true rfl) dX5_yields_2 (fun H locs hP hD hS => ?_)
  have hP : va_P D vwCl [eM hm mh mo my mp (va_up M 0 (0 : Int32)) mc, eH cI mh mhol, eO cI mo mof, eY cI my mdy, eP cJ mp mpd] H := hP
  have hD : va_D A [eM hm mh mo my mp (va_up M 0 (0 : Int32)) mc, eH cI mh mhol, eO cI mo mof, eY cI my mdy, eP cJ mp mpd] := hD
  refine lv_aload_n hx hb dX5_yields_5 rfl (lv_at hl 0 rfl) ?_
  refine lv_iload_n hx hb dX5_yields_6 rfl (lv_at hl 1 rfl) ?_
  obtain ⟨v1, hv1, hf⟩ := ob hf
  refine cSz (W.runV (As := [.int a0]) (rest := []) ⟨hx, hb, hml, hown, hts⟩ (m_X5_isBond l D cI cJ cO hm mh mo my mp (va_up M 0 (0 : Int32)) mc mhol mof mdy mpd a0 v1 hv1) (cwV 1 hts gX5_yields_X5_isBond rfl rfl rfl (by decide +kernel) ⟨(Nat.le_of_ble_eq_true rfl), (Nat.le_of_ble_eq_true rfl)⟩) ⟨pw_blind, va_recv hK hP (ci := 4) (q0 := 0) rfl rfl, fun U hU hW => ⟨rfl, pw_at hZ hS hP hK hU hW (Or.inr rfl) [0, 1, 2, 3, 4] rfl⟩⟩ rfl rfl hl.1 rfl (lv_room (Nat.le_of_ble_eq_true rfl)) dX5_yields_7 ⟨(Nat.le_of_ble_eq_true rfl), (Nat.le_of_ble_eq_true rfl)⟩) (fun zv1 => ?_)
  refine lv_if_ne (tgt := 19) hx hb dX5_yields_10 (by decide) (fun c2 => ?_) (fun c2 => ?_)
  · have hf := ie hf c2
    refine lv_iload_n hx hb dX5_yields_19 rfl (lv_at hl 2 rfl) ?_
    refine lv_iconst (v := 1) hx hb dX5_yields_20 (by decide) ?_
    refine lv_sipush (v := 30000) hx hb dX5_yields_21 (by decide) ?_
    obtain ⟨v3, hv3, hf⟩ := ob hf
    refine cSz (W.runS (As := [.int a1, .int 1, .int 30000]) (rest := []) ⟨hx, hb, hml, hown, hts⟩ (m_X5_isIn l D cI cJ cO a1 1 30000 v3 hv3) (va_cwS 3 hts gX5_yields_X5_isIn rfl rfl rfl (by decide +kernel) ⟨(Nat.le_of_ble_eq_true rfl), (Nat.le_of_ble_eq_true rfl)⟩) ⟨pw_blind, fun U hU hW => ⟨rfl, pw_at hZ hS hP hK hU hW (Or.inr rfl) [] rfl⟩⟩ rfl rfl hl.1 rfl (lv_room (Nat.le_of_ble_eq_true rfl)) dX5_yields_24 ⟨(Nat.le_of_ble_eq_true rfl), (Nat.le_of_ble_eq_true rfl)⟩) (fun zv3 => ?_)
    refine lv_if_eq (tgt := 39) hx hb dX5_yields_27 (by decide) (fun c4 => ?_) (fun c4 => ?_)
    · have hf := it hf c4
      refine lv_aload_n hx hb dX5_yields_39 rfl (lv_at hl 0 rfl) ?_
      refine lv_iconst (v := 2) hx hb dX5_yields_40 (by decide) ?_
      obtain ⟨v5, hv5, hf⟩ := ob hf
      have hPc := hP.sub (ws' := [eM hm mh mo my mp (va_up M 0 (0 : Int32)) mc, eH cI mh mhol, eO cI mo mof, eY cI my mdy, eP cJ mp mpd]) [0, 1, 2, 3, 4] rfl
      have hDc := hD.sub (ws' := [eM hm mh mo my mp (va_up M 0 (0 : Int32)) mc, eH cI mh mhol, eO cI mo mof, eY cI my mdy, eP cJ mp mpd]) [0, 1, 2, 3, 4] (by decide) rfl
      have hFc := va_free (wc := [eM hm mh mo my mp (va_up M 0 (0 : Int32)) mc, eH cI mh mhol, eO cI mo mof, eY cI my mdy, eP cJ mp mpd]) hD hS hA [0, 1, 2, 3, 4] rfl
      refine va_calli (va_runV (As := [.int 2]) (rest := []) ⟨hx, hb, hml, hown, hts⟩ (m_X5_no l D cI cJ cO hm mh mo my mp (va_up M 0 (0 : Int32)) mc mhol mof mdy mpd H.size 2 v5 hv5) (cwV 1 hts gX5_yields_X5_no rfl rfl rfl (by decide +kernel) ⟨(Nat.le_of_ble_eq_true rfl), (Nat.le_of_ble_eq_true rfl)⟩) ⟨mp_blind, va_recv hK hP (ci := 4) (q0 := 0) rfl rfl, fun U hU hW => ⟨rfl, mp_at hZ hS hPc hK hDc hFc hU hW (Or.inr rfl)⟩⟩ rfl rfl hl.1 rfl (lv_room (Nat.le_of_ble_eq_true rfl)) dX5_yields_41 ⟨(Nat.le_of_ble_eq_true rfl), (Nat.le_of_ble_eq_true rfl)⟩) hS (fun q _ h => hFc q h) hFc (fun rv5 u t H1 locs ht9 hvm hw hBx hz1 hk1 hS => ?_)
      subst hw
      obtain ⟨hP1, hD1⟩ := hBx
      rw [ht9] at hP1
      obtain ⟨hP, hD⟩ := va_join (wr := []) (w1 := [eM hm mh mo my mp v5.2 mc, eH cI mh mhol, eO cI mo mof, eY cI my mdy, eP cJ mp mpd]) hP hD [0, 1, 2, 3, 4] [] rfl rfl (by decide) (by decide) hk1 hFc hP1 hD1
      have hP := hP.sub (ws' := [eM hm mh mo my mp v5.2 mc, eH cI mh mhol, eO cI mo mof, eY cI my mdy, eP cJ mp mpd]) [0, 1, 2, 3, 4] rfl
      have hD := hD.sub (ws' := [eM hm mh mo my mp v5.2 mc, eH cI mh mhol, eO cI mo mof, eY cI my mdy, eP cJ mp mpd]) [0, 1, 2, 3, 4] (by decide) rfl
      generalize H1 = H at hP hS ⊢
      refine W.widen (k := 0) (n := 0) (Nat.le_of_ble_eq_true rfl) (Nat.le_of_ble_eq_true rfl) ?_
      have e9 := Option.some.inj hf
      subst e9
      exact W.iret hx hb hr (fun t ht hW => ⟨⟨_, (), rfl, rfl, by rw [ht]; exact hP, hD⟩, hS.F ht⟩) hS.2.2 dX5_yields_44
    · have hf := ie hf c4
      refine lv_aload_n hx hb dX5_yields_30 rfl (lv_at hl 0 rfl) ?_
      refine lv_iload_n hx hb dX5_yields_31 rfl (lv_at hl 1 rfl) ?_
      refine lv_iload_n hx hb dX5_yields_32 rfl (lv_at hl 2 rfl) ?_
      obtain ⟨v6, hv6, hf⟩ := ob hf
      refine cSi (W.runV (As := [.int a0, .int a1]) (rest := []) ⟨hx, hb, hml, hown, hts⟩ (m_X5_yielded l D cI cJ cO hm mh mo my mp (va_up M 0 (0 : Int32)) mc mhol mof mdy mpd a0 a1 N v6 hv6) (cwV 2 hts gX5_yields_X5_yielded rfl rfl rfl (by decide +kernel) ⟨(Nat.le_of_ble_eq_true rfl), (Nat.le_of_ble_eq_true rfl)⟩) ⟨pw_blind, va_recv hK hP (ci := 4) (q0 := 0) rfl rfl, fun U hU hW => ⟨rfl, pw_at hZ hS hP hK hU hW (Or.inr rfl) [0, 1, 2, 3, 4] rfl⟩⟩ rfl rfl hl.1 rfl (lv_room (Nat.le_of_ble_eq_true rfl)) dX5_yields_33 ⟨(Nat.le_of_ble_eq_true rfl), (Nat.le_of_ble_eq_true rfl)⟩) ?_
      refine lv_goto (tgt := 44) hx hb dX5_yields_36 (by decide) ?_
      refine W.widen (k := 0) (n := 0) (Nat.le_of_ble_eq_true rfl) (Nat.le_of_ble_eq_true rfl) ?_
      have e9 := Option.some.inj hf
      subst e9
      exact W.iret hx hb hr (fun t ht hW => ⟨⟨_, (), rfl, rfl, by rw [ht]; exact hP, hD⟩, hS.F ht⟩) hS.2.2 dX5_yields_44
  · have hf := it hf c2
    refine lv_aload_n hx hb dX5_yields_13 rfl (lv_at hl 0 rfl) ?_
    refine lv_iconst (v := 1) hx hb dX5_yields_14 (by decide) ?_
    obtain ⟨v7, hv7, hf⟩ := ob hf
    have hPc := hP.sub (ws' := [eM hm mh mo my mp (va_up M 0 (0 : Int32)) mc, eH cI mh mhol, eO cI mo mof, eY cI my mdy, eP cJ mp mpd]) [0, 1, 2, 3, 4] rfl
    have hDc := hD.sub (ws' := [eM hm mh mo my mp (va_up M 0 (0 : Int32)) mc, eH cI mh mhol, eO cI mo mof, eY cI my mdy, eP cJ mp mpd]) [0, 1, 2, 3, 4] (by decide) rfl
    have hFc := va_free (wc := [eM hm mh mo my mp (va_up M 0 (0 : Int32)) mc, eH cI mh mhol, eO cI mo mof, eY cI my mdy, eP cJ mp mpd]) hD hS hA [0, 1, 2, 3, 4] rfl
    refine va_calli (va_runV (As := [.int 1]) (rest := []) ⟨hx, hb, hml, hown, hts⟩ (m_X5_no l D cI cJ cO hm mh mo my mp (va_up M 0 (0 : Int32)) mc mhol mof mdy mpd H.size 1 v7 hv7) (cwV 1 hts gX5_yields_X5_no rfl rfl rfl (by decide +kernel) ⟨(Nat.le_of_ble_eq_true rfl), (Nat.le_of_ble_eq_true rfl)⟩) ⟨mp_blind, va_recv hK hP (ci := 4) (q0 := 0) rfl rfl, fun U hU hW => ⟨rfl, mp_at hZ hS hPc hK hDc hFc hU hW (Or.inr rfl)⟩⟩ rfl rfl hl.1 rfl (lv_room (Nat.le_of_ble_eq_true rfl)) dX5_yields_15 ⟨(Nat.le_of_ble_eq_true rfl), (Nat.le_of_ble_eq_true rfl)⟩) hS (fun q _ h => hFc q h) hFc (fun rv7 u t H1 locs ht9 hvm hw hBx hz1 hk1 hS => ?_)
    subst hw
    obtain ⟨hP1, hD1⟩ := hBx
    rw [ht9] at hP1
    obtain ⟨hP, hD⟩ := va_join (wr := []) (w1 := [eM hm mh mo my mp v7.2 mc, eH cI mh mhol, eO cI mo mof, eY cI my mdy, eP cJ mp mpd]) hP hD [0, 1, 2, 3, 4] [] rfl rfl (by decide) (by decide) hk1 hFc hP1 hD1
    have hP := hP.sub (ws' := [eM hm mh mo my mp v7.2 mc, eH cI mh mhol, eO cI mo mof, eY cI my mdy, eP cJ mp mpd]) [0, 1, 2, 3, 4] rfl
    have hD := hD.sub (ws' := [eM hm mh mo my mp v7.2 mc, eH cI mh mhol, eO cI mo mof, eY cI my mdy, eP cJ mp mpd]) [0, 1, 2, 3, 4] (by decide) rfl
    generalize H1 = H at hP hS ⊢
    refine W.widen (k := 0) (n := 0) (Nat.le_of_ble_eq_true rfl) (Nat.le_of_ble_eq_true rfl) ?_
    have e9 := Option.some.inj hf
    subst e9
    exact W.iret hx hb hr (fun t ht hW => ⟨⟨_, (), rfl, rfl, by rw [ht]; exact hP, hD⟩, hS.F ht⟩) hS.2.2 dX5_yields_18
theorem inX5_moves_X5 : ∀ w ∈ wsX50, w ∈ wsX5_moves := by decide +kernel
set_option maxHeartbeats 4000000 in
set_option maxRecDepth 100000 in
theorem m_X5_moves (l : Launch) (D : va_G) (cI cJ cO : ClassId) (hm : Nat) (mh : Nat) (mo : Nat) (my : Nat) (mp : Nat) (M : Nat → Int32) (mc : Int64) (mhol : Nat → Int32) (mof : Nat → Int32) (mdy : Nat → Int32) (mpd : Nat → Int64) (sz : Nat) (a0 : Int32) (a1 : Int32) (N : Nat) (r : Int32 × (Nat → Int32)) (hf : f_X5_moves N M mof mdy a0 a1 = some r) : Met l yX5_moves wsX5_moves ({ frames := 6, cells := 0, slots := 0, locals := 151 }) (va_Pc [.ref hm, .int a0, .int a1] (mP D (ty3 cI cJ cO) none [eM hm mh mo my mp M mc, eH cI mh mhol, eO cI mo mof, eY cI my mdy, eP cJ mp mpd] sz)) (mQi D (va_A [eM hm mh mo my mp M mc, eH cI mh mhol, eO cI mo mof, eY cI my mdy, eP cJ mp mpd] sz) r.1 [eM hm mh mo my mp r.2 mc, eH cI mh mhol, eO cI mo mof, eY cI my mdy, eP cJ mp mpd]) 0 0 (va_A [eM hm mh mo my mp M mc, eH cI mh mhol, eO cI mo mof, eY cI my mdy, eP cJ mp mpd] sz) := by
  refine Met.ofW (cc := cX5_moves) (maxL := 3) (ret := (some .int)) (by decide) rfl ?_
  intro p e s m args below meth c s₁ Bd hml hv
  obtain ⟨rfl, hsz, hZ, hP, hK, hD0⟩ := hv
  have hx := Bd.exec
  have hb := Bd.bytes
  have hr := Bd.returns
  have hts := atoms_spec (ws := wsX5_moves) Bd.pre
  have hown : s.vm.findClass RX5 = some m.cls := findClass_of_methodNamed Bd.named
  have hlocks := Bd.notSynchronized
  subst hsz
  have hD := hD0.self (sz := s.heap.size)
  generalize hAe : va_A [eM hm mh mo my mp M mc, eH cI mh mhol, eO cI mo mof, eY cI my mdy, eP cJ mp mpd] s.heap.size = A at hD hZ ⊢
  have hA : ∀ q : Nat, s.heap.size ≤ q → A q := fun q h => by rw [← hAe]; exact Or.inr h
  have hS : va_S A s.heap s.heap [] := va_S.rf
  have hl := lv_entry ([.ref hm, .int a0, .int a1]) (n := 3) (Nat.le_of_ble_eq_true rfl)
  rw [lg_entry_eq]
  generalize (lg_sl ([.ref hm, .int a0, .int a1]) ++ List.replicate (3 - (lg_sl ([.ref hm, .int a0, .int a1])).length) Slot.unset).toArray = ls at hl ⊢
  have hl : lv_has ls 3 [(0, .ref hm), (1, .int a0), (2, .int a1)] := hl
  unfold f_X5_moves at hf
  refine lv_aload_n hx hb dX5_moves_0 rfl (lv_at hl 0 rfl) ?_
  refine lv_iconst (v := 0) hx hb dX5_moves_1 (by decide) ?_
  refine va_put (D := D) (ci := 4) (v := .int 0) (ty := .int) (C := RX5) (T := TX5) (N := 10) hx hb hts inX5_moves_X5 tyX5 tyX5_ok nmX5 hown hK hP hD hS 0 rfl rfl 0 (by decide) (hts (.fieldLink RX5 41 "BondDeskModel" "thrown" "I") (by decide +kernel)) (fun _ h9 => h9) rfl (by decide +kernel) rfl rfl (Nat.le_of_ble_eq_true rfl) dX5_moves_2 (fun H locs hP hD hS => ?_)
  have hP : va_P D vwCl [eM hm mh mo my mp (va_up M 0 (0 : Int32)) mc, eH cI mh mhol, eO cI mo mof, eY cI my mdy, eP cJ mp mpd] H := hP
  have hD : va_D A [eM hm mh mo my mp (va_up M 0 (0 : Int32)) mc, eH cI mh mhol, eO cI mo mof, eY cI my mdy, eP cJ mp mpd] := hD
  refine lv_aload_n hx hb dX5_moves_5 rfl (lv_at hl 0 rfl) ?_
  refine lv_iload_n hx hb dX5_moves_6 rfl (lv_at hl 1 rfl) ?_
  obtain ⟨v1, hv1, hf⟩ := ob hf
  refine cSz (W.runV (As := [.int a0]) (rest := []) ⟨hx, hb, hml, hown, hts⟩ (m_X5_isBond l D cI cJ cO hm mh mo my mp (va_up M 0 (0 : Int32)) mc mhol mof mdy mpd a0 v1 hv1) (cwV 1 hts gX5_moves_X5_isBond rfl rfl rfl (by decide +kernel) ⟨(Nat.le_of_ble_eq_true rfl), (Nat.le_of_ble_eq_true rfl)⟩) ⟨pw_blind, va_recv hK hP (ci := 4) (q0 := 0) rfl rfl, fun U hU hW => ⟨rfl, pw_at hZ hS hP hK hU hW (Or.inr rfl) [0, 1, 2, 3, 4] rfl⟩⟩ rfl rfl hl.1 rfl (lv_room (Nat.le_of_ble_eq_true rfl)) dX5_moves_7 ⟨(Nat.le_of_ble_eq_true rfl), (Nat.le_of_ble_eq_true rfl)⟩) (fun zv1 => ?_)
  refine lv_if_ne (tgt := 19) hx hb dX5_moves_10 (by decide) (fun c2 => ?_) (fun c2 => ?_)
  · have hf := ie hf c2
    refine lv_iload_n hx hb dX5_moves_19 rfl (lv_at hl 2 rfl) ?_
    refine lv_iconst (v := 0) hx hb dX5_moves_20 (by decide) ?_
    refine lv_sipush (v := 5000) hx hb dX5_moves_21 (by decide) ?_
    obtain ⟨v3, hv3, hf⟩ := ob hf
    refine cSz (W.runS (As := [.int a1, .int 0, .int 5000]) (rest := []) ⟨hx, hb, hml, hown, hts⟩ (m_X5_isIn l D cI cJ cO a1 0 5000 v3 hv3) (va_cwS 3 hts gX5_moves_X5_isIn rfl rfl rfl (by decide +kernel) ⟨(Nat.le_of_ble_eq_true rfl), (Nat.le_of_ble_eq_true rfl)⟩) ⟨pw_blind, fun U hU hW => ⟨rfl, pw_at hZ hS hP hK hU hW (Or.inr rfl) [] rfl⟩⟩ rfl rfl hl.1 rfl (lv_room (Nat.le_of_ble_eq_true rfl)) dX5_moves_24 ⟨(Nat.le_of_ble_eq_true rfl), (Nat.le_of_ble_eq_true rfl)⟩) (fun zv3 => ?_)
    refine lv_if_eq (tgt := 49) hx hb dX5_moves_27 (by decide) (fun c4 => ?_) (fun c4 => ?_)
    · have hf := it hf c4
      refine lv_aload_n hx hb dX5_moves_49 rfl (lv_at hl 0 rfl) ?_
      refine lv_iconst (v := 2) hx hb dX5_moves_50 (by decide) ?_
      obtain ⟨v5, hv5, hf⟩ := ob hf
      have hPc := hP.sub (ws' := [eM hm mh mo my mp (va_up M 0 (0 : Int32)) mc, eH cI mh mhol, eO cI mo mof, eY cI my mdy, eP cJ mp mpd]) [0, 1, 2, 3, 4] rfl
      have hDc := hD.sub (ws' := [eM hm mh mo my mp (va_up M 0 (0 : Int32)) mc, eH cI mh mhol, eO cI mo mof, eY cI my mdy, eP cJ mp mpd]) [0, 1, 2, 3, 4] (by decide) rfl
      have hFc := va_free (wc := [eM hm mh mo my mp (va_up M 0 (0 : Int32)) mc, eH cI mh mhol, eO cI mo mof, eY cI my mdy, eP cJ mp mpd]) hD hS hA [0, 1, 2, 3, 4] rfl
      refine va_calli (va_runV (As := [.int 2]) (rest := []) ⟨hx, hb, hml, hown, hts⟩ (m_X5_no l D cI cJ cO hm mh mo my mp (va_up M 0 (0 : Int32)) mc mhol mof mdy mpd H.size 2 v5 hv5) (cwV 1 hts gX5_moves_X5_no rfl rfl rfl (by decide +kernel) ⟨(Nat.le_of_ble_eq_true rfl), (Nat.le_of_ble_eq_true rfl)⟩) ⟨mp_blind, va_recv hK hP (ci := 4) (q0 := 0) rfl rfl, fun U hU hW => ⟨rfl, mp_at hZ hS hPc hK hDc hFc hU hW (Or.inr rfl)⟩⟩ rfl rfl hl.1 rfl (lv_room (Nat.le_of_ble_eq_true rfl)) dX5_moves_51 ⟨(Nat.le_of_ble_eq_true rfl), (Nat.le_of_ble_eq_true rfl)⟩) hS (fun q _ h => hFc q h) hFc (fun rv5 u t H1 locs ht9 hvm hw hBx hz1 hk1 hS => ?_)
      subst hw
      obtain ⟨hP1, hD1⟩ := hBx
      rw [ht9] at hP1
      obtain ⟨hP, hD⟩ := va_join (wr := []) (w1 := [eM hm mh mo my mp v5.2 mc, eH cI mh mhol, eO cI mo mof, eY cI my mdy, eP cJ mp mpd]) hP hD [0, 1, 2, 3, 4] [] rfl rfl (by decide) (by decide) hk1 hFc hP1 hD1
      have hP := hP.sub (ws' := [eM hm mh mo my mp v5.2 mc, eH cI mh mhol, eO cI mo mof, eY cI my mdy, eP cJ mp mpd]) [0, 1, 2, 3, 4] rfl
      have hD := hD.sub (ws' := [eM hm mh mo my mp v5.2 mc, eH cI mh mhol, eO cI mo mof, eY cI my mdy, eP cJ mp mpd]) [0, 1, 2, 3, 4] (by decide) rfl
      generalize H1 = H at hP hS ⊢
      refine W.widen (k := 0) (n := 0) (Nat.le_of_ble_eq_true rfl) (Nat.le_of_ble_eq_true rfl) ?_
      have e9 := Option.some.inj hf
      subst e9
      exact W.iret hx hb hr (fun t ht hW => ⟨⟨_, (), rfl, rfl, by rw [ht]; exact hP, hD⟩, hS.F ht⟩) hS.2.2 dX5_moves_54
    · have hf := ie hf c4
      refine lv_aload_n hx hb dX5_moves_30 rfl (lv_at hl 0 rfl) ?_
      refine lv_iload_n hx hb dX5_moves_31 rfl (lv_at hl 1 rfl) ?_
      refine lv_iload_n hx hb dX5_moves_32 rfl (lv_at hl 2 rfl) ?_
      obtain ⟨v6, hv6, hf⟩ := ob hf
      refine cSl (W.runV (As := [.int a0, .int a1]) (rest := []) ⟨hx, hb, hml, hown, hts⟩ (m_X5_worthNow l D cI cJ cO hm mh mo my mp (va_up M 0 (0 : Int32)) mc mhol mof mdy mpd a0 a1 N v6 hv6) (cwV 2 hts gX5_moves_X5_worthNow rfl rfl rfl (by decide +kernel) ⟨(Nat.le_of_ble_eq_true rfl), (Nat.le_of_ble_eq_true rfl)⟩) ⟨pw_blind, va_recv hK hP (ci := 4) (q0 := 0) rfl rfl, fun U hU hW => ⟨rfl, pw_at hZ hS hP hK hU hW (Or.inr rfl) [0, 1, 2, 3, 4] rfl⟩⟩ rfl rfl hl.1 rfl (lv_room (Nat.le_of_ble_eq_true rfl)) dX5_moves_33 ⟨(Nat.le_of_ble_eq_true rfl), (Nat.le_of_ble_eq_true rfl)⟩) ?_
      refine lv_aload_n hx hb dX5_moves_36 rfl (lv_at hl 0 rfl) ?_
      refine lv_iload_n hx hb dX5_moves_37 rfl (lv_at hl 1 rfl) ?_
      refine lv_iload_n hx hb dX5_moves_38 rfl (lv_at hl 2 rfl) ?_
      refine lv_iconst (v := 1) hx hb dX5_moves_39 (by decide) ?_
      refine lv_iadd hx hb dX5_moves_40 ?_
      obtain ⟨v7, hv7, hf⟩ := ob hf
      refine cSl (W.runV (As := [.int a0, .int (a1 + 1)]) (rest := [.long v6]) ⟨hx, hb, hml, hown, hts⟩ (m_X5_worthNow l D cI cJ cO hm mh mo my mp (va_up M 0 (0 : Int32)) mc mhol mof mdy mpd a0 (a1 + 1) N v7 hv7) (cwV 2 hts gX5_moves_X5_worthNow rfl rfl rfl (by decide +kernel) ⟨(Nat.le_of_ble_eq_true rfl), (Nat.le_of_ble_eq_true rfl)⟩) ⟨pw_blind, va_recv hK hP (ci := 4) (q0 := 0) rfl rfl, fun U hU hW => ⟨rfl, pw_at hZ hS hP hK hU hW (Or.inr rfl) [0, 1, 2, 3, 4] rfl⟩⟩ rfl rfl hl.1 rfl (lv_room (Nat.le_of_ble_eq_true rfl)) dX5_moves_41 ⟨(Nat.le_of_ble_eq_true rfl), (Nat.le_of_ble_eq_true rfl)⟩) ?_
      refine lv_lsub hx hb dX5_moves_44 ?_
      refine lv_l2i hx hb dX5_moves_45 rfl ?_
      refine lv_goto (tgt := 54) hx hb dX5_moves_46 (by decide) ?_
      refine W.widen (k := 0) (n := 0) (Nat.le_of_ble_eq_true rfl) (Nat.le_of_ble_eq_true rfl) ?_
      have e9 := Option.some.inj hf
      subst e9
      exact W.iret hx hb hr (fun t ht hW => ⟨⟨_, (), rfl, rfl, by rw [ht]; exact hP, hD⟩, hS.F ht⟩) hS.2.2 dX5_moves_54
  · have hf := it hf c2
    refine lv_aload_n hx hb dX5_moves_13 rfl (lv_at hl 0 rfl) ?_
    refine lv_iconst (v := 1) hx hb dX5_moves_14 (by decide) ?_
    obtain ⟨v8, hv8, hf⟩ := ob hf
    have hPc := hP.sub (ws' := [eM hm mh mo my mp (va_up M 0 (0 : Int32)) mc, eH cI mh mhol, eO cI mo mof, eY cI my mdy, eP cJ mp mpd]) [0, 1, 2, 3, 4] rfl
    have hDc := hD.sub (ws' := [eM hm mh mo my mp (va_up M 0 (0 : Int32)) mc, eH cI mh mhol, eO cI mo mof, eY cI my mdy, eP cJ mp mpd]) [0, 1, 2, 3, 4] (by decide) rfl
    have hFc := va_free (wc := [eM hm mh mo my mp (va_up M 0 (0 : Int32)) mc, eH cI mh mhol, eO cI mo mof, eY cI my mdy, eP cJ mp mpd]) hD hS hA [0, 1, 2, 3, 4] rfl
    refine va_calli (va_runV (As := [.int 1]) (rest := []) ⟨hx, hb, hml, hown, hts⟩ (m_X5_no l D cI cJ cO hm mh mo my mp (va_up M 0 (0 : Int32)) mc mhol mof mdy mpd H.size 1 v8 hv8) (cwV 1 hts gX5_moves_X5_no rfl rfl rfl (by decide +kernel) ⟨(Nat.le_of_ble_eq_true rfl), (Nat.le_of_ble_eq_true rfl)⟩) ⟨mp_blind, va_recv hK hP (ci := 4) (q0 := 0) rfl rfl, fun U hU hW => ⟨rfl, mp_at hZ hS hPc hK hDc hFc hU hW (Or.inr rfl)⟩⟩ rfl rfl hl.1 rfl (lv_room (Nat.le_of_ble_eq_true rfl)) dX5_moves_15 ⟨(Nat.le_of_ble_eq_true rfl), (Nat.le_of_ble_eq_true rfl)⟩) hS (fun q _ h => hFc q h) hFc (fun rv8 u t H1 locs ht9 hvm hw hBx hz1 hk1 hS => ?_)
    subst hw
    obtain ⟨hP1, hD1⟩ := hBx
    rw [ht9] at hP1
    obtain ⟨hP, hD⟩ := va_join (wr := []) (w1 := [eM hm mh mo my mp v8.2 mc, eH cI mh mhol, eO cI mo mof, eY cI my mdy, eP cJ mp mpd]) hP hD [0, 1, 2, 3, 4] [] rfl rfl (by decide) (by decide) hk1 hFc hP1 hD1
    have hP := hP.sub (ws' := [eM hm mh mo my mp v8.2 mc, eH cI mh mhol, eO cI mo mof, eY cI my mdy, eP cJ mp mpd]) [0, 1, 2, 3, 4] rfl
    have hD := hD.sub (ws' := [eM hm mh mo my mp v8.2 mc, eH cI mh mhol, eO cI mo mof, eY cI my mdy, eP cJ mp mpd]) [0, 1, 2, 3, 4] (by decide) rfl
    generalize H1 = H at hP hS ⊢
    refine W.widen (k := 0) (n := 0) (Nat.le_of_ble_eq_true rfl) (Nat.le_of_ble_eq_true rfl) ?_
    have e9 := Option.some.inj hf
    subst e9
    exact W.iret hx hb hr (fun t ht hW => ⟨⟨_, (), rfl, rfl, by rw [ht]; exact hP, hD⟩, hS.F ht⟩) hS.2.2 dX5_moves_18
theorem inX5_callsAt_X5 : ∀ w ∈ wsX50, w ∈ wsX5_callsAt := by decide +kernel
set_option maxHeartbeats 4000000 in
set_option maxRecDepth 100000 in
theorem m_X5_callsAt (l : Launch) (D : va_G) (cI cJ cO : ClassId) (hm : Nat) (mh : Nat) (mo : Nat) (my : Nat) (mp : Nat) (M : Nat → Int32) (mc : Int64) (mhol : Nat → Int32) (mof : Nat → Int32) (mdy : Nat → Int32) (mpd : Nat → Int64) (sz : Nat) (a0 : Int32) (N : Nat) (r : Int32 × (Nat → Int32)) (hf : f_X5_callsAt N M mof mdy a0 = some r) : Met l yX5_callsAt wsX5_callsAt ({ frames := 5, cells := 0, slots := 0, locals := 129 }) (va_Pc [.ref hm, .int a0] (mP D (ty3 cI cJ cO) none [eM hm mh mo my mp M mc, eH cI mh mhol, eO cI mo mof, eY cI my mdy, eP cJ mp mpd] sz)) (mQi D (va_A [eM hm mh mo my mp M mc, eH cI mh mhol, eO cI mo mof, eY cI my mdy, eP cJ mp mpd] sz) r.1 [eM hm mh mo my mp r.2 mc, eH cI mh mhol, eO cI mo mof, eY cI my mdy, eP cJ mp mpd]) 0 0 (va_A [eM hm mh mo my mp M mc, eH cI mh mhol, eO cI mo mof, eY cI my mdy, eP cJ mp mpd] sz) := by
  refine Met.ofW (cc := cX5_callsAt) (maxL := 7) (ret := (some .int)) (by decide) rfl ?_
  intro p e s m args below meth c s₁ Bd hml hv
  obtain ⟨rfl, hsz, hZ, hP, hK, hD0⟩ := hv
  have hx := Bd.exec
  have hb := Bd.bytes
  have hr := Bd.returns
  have hts := atoms_spec (ws := wsX5_callsAt) Bd.pre
  have hown : s.vm.findClass RX5 = some m.cls := findClass_of_methodNamed Bd.named
  have hlocks := Bd.notSynchronized
  subst hsz
  have hD := hD0.self (sz := s.heap.size)
  generalize hAe : va_A [eM hm mh mo my mp M mc, eH cI mh mhol, eO cI mo mof, eY cI my mdy, eP cJ mp mpd] s.heap.size = A at hD hZ ⊢
  have hA : ∀ q : Nat, s.heap.size ≤ q → A q := fun q h => by rw [← hAe]; exact Or.inr h
  have hS : va_S A s.heap s.heap [] := va_S.rf
  have hl := lv_entry ([.ref hm, .int a0]) (n := 7) (Nat.le_of_ble_eq_true rfl)
  rw [lg_entry_eq]
  generalize (lg_sl ([.ref hm, .int a0]) ++ List.replicate (7 - (lg_sl ([.ref hm, .int a0])).length) Slot.unset).toArray = ls at hl ⊢
  have hl : lv_has ls 7 [(0, .ref hm), (1, .int a0)] := hl
  unfold f_X5_callsAt at hf
  refine lv_aload_n hx hb dX5_callsAt_0 rfl (lv_at hl 0 rfl) ?_
  refine lv_iconst (v := 0) hx hb dX5_callsAt_1 (by decide) ?_
  refine va_put (D := D) (ci := 4) (v := .int 0) (ty := .int) (C := RX5) (T := TX5) (N := 10) hx hb hts inX5_callsAt_X5 tyX5 tyX5_ok nmX5 hown hK hP hD hS 0 rfl rfl 0 (by decide) (hts (.fieldLink RX5 41 "BondDeskModel" "thrown" "I") (by decide +kernel)) (fun _ h9 => h9) rfl (by decide +kernel) rfl rfl (Nat.le_of_ble_eq_true rfl) dX5_callsAt_2 (fun H locs hP hD hS => ?_)
  have hP : va_P D vwCl [eM hm mh mo my mp (va_up M 0 (0 : Int32)) mc, eH cI mh mhol, eO cI mo mof, eY cI my mdy, eP cJ mp mpd] H := hP
  have hD : va_D A [eM hm mh mo my mp (va_up M 0 (0 : Int32)) mc, eH cI mh mhol, eO cI mo mof, eY cI my mdy, eP cJ mp mpd] := hD
  refine lv_aload_n hx hb dX5_callsAt_5 rfl (lv_at hl 0 rfl) ?_
  refine lv_iload_n hx hb dX5_callsAt_6 rfl (lv_at hl 1 rfl) ?_
  obtain ⟨v1, hv1, hf⟩ := ob hf
  refine cSz (W.runV (As := [.int a0]) (rest := []) ⟨hx, hb, hml, hown, hts⟩ (m_X5_isBond l D cI cJ cO hm mh mo my mp (va_up M 0 (0 : Int32)) mc mhol mof mdy mpd a0 v1 hv1) (cwV 1 hts gX5_callsAt_X5_isBond rfl rfl rfl (by decide +kernel) ⟨(Nat.le_of_ble_eq_true rfl), (Nat.le_of_ble_eq_true rfl)⟩) ⟨pw_blind, va_recv hK hP (ci := 4) (q0 := 0) rfl rfl, fun U hU hW => ⟨rfl, pw_at hZ hS hP hK hU hW (Or.inr rfl) [0, 1, 2, 3, 4] rfl⟩⟩ rfl rfl hl.1 rfl (lv_room (Nat.le_of_ble_eq_true rfl)) dX5_callsAt_7 ⟨(Nat.le_of_ble_eq_true rfl), (Nat.le_of_ble_eq_true rfl)⟩) (fun zv1 => ?_)
  refine lv_if_ne (tgt := 19) hx hb dX5_callsAt_10 (by decide) (fun c2 => ?_) (fun c2 => ?_)
  · have hf := ie hf c2
    refine lv_aload_n hx hb dX5_callsAt_19 rfl (lv_at hl 0 rfl) ?_
    refine lv_iload_n hx hb dX5_callsAt_20 rfl (lv_at hl 1 rfl) ?_
    obtain ⟨v3, hv3, hf⟩ := ob hf
    refine cSi (W.runV (As := [.int a0]) (rest := []) ⟨hx, hb, hml, hown, hts⟩ (m_X5_firstCall l D cI cJ cO hm mh mo my mp (va_up M 0 (0 : Int32)) mc mhol mof mdy mpd a0 N v3 hv3) (cwV 1 hts gX5_callsAt_X5_firstCall rfl rfl rfl (by decide +kernel) ⟨(Nat.le_of_ble_eq_true rfl), (Nat.le_of_ble_eq_true rfl)⟩) ⟨pw_blind, va_recv hK hP (ci := 4) (q0 := 0) rfl rfl, fun U hU hW => ⟨rfl, pw_at hZ hS hP hK hU hW (Or.inr rfl) [0, 1, 2, 3, 4] rfl⟩⟩ rfl rfl hl.1 rfl (lv_room (Nat.le_of_ble_eq_true rfl)) dX5_callsAt_21 ⟨(Nat.le_of_ble_eq_true rfl), (Nat.le_of_ble_eq_true rfl)⟩) ?_
    refine lv_istore_n (lv' := [(2, .int v3), (0, .ref hm), (1, .int a0)]) hx hb dX5_callsAt_24 rfl hl (by decide) rfl (fun ls hl => ?_)
    refine lv_iload_n hx hb dX5_callsAt_25 rfl (lv_at hl 0 rfl) ?_
    refine lv_iconst (v := (-1)) hx hb dX5_callsAt_26 (by decide) ?_
    refine lv_icmp_ne (tgt := 32) hx hb dX5_callsAt_27 (by decide) (fun c4 => ?_) (fun c4 => ?_)
    · have hf := ie hf c4
      refine lv_aload_n hx hb dX5_callsAt_32 rfl (lv_at hl 1 rfl) ?_
      refine lv_iload_n hx hb dX5_callsAt_33 rfl (lv_at hl 2 rfl) ?_
      refine lv_iload_n hx hb dX5_callsAt_34 rfl (lv_at hl 0 rfl) ?_
      obtain ⟨v5, hv5, hf⟩ := ob hf
      refine cSi (W.runV (As := [.int a0, .int v3]) (rest := []) ⟨hx, hb, hml, hown, hts⟩ (m_X5_leftBehind l D cI cJ cO hm mh mo my mp (va_up M 0 (0 : Int32)) mc mhol mof mdy mpd a0 v3 N v5 hv5) (cwV 2 hts gX5_callsAt_X5_leftBehind rfl rfl rfl (by decide +kernel) ⟨(Nat.le_of_ble_eq_true rfl), (Nat.le_of_ble_eq_true rfl)⟩) ⟨pw_blind, va_recv hK hP (ci := 4) (q0 := 0) rfl rfl, fun U hU hW => ⟨rfl, pw_at hZ hS hP hK hU hW (Or.inr rfl) [0, 1, 2, 3, 4] rfl⟩⟩ rfl rfl hl.1 rfl (lv_room (Nat.le_of_ble_eq_true rfl)) dX5_callsAt_35 ⟨(Nat.le_of_ble_eq_true rfl), (Nat.le_of_ble_eq_true rfl)⟩) ?_
      refine lv_istore_n (lv' := [(3, .int v5), (2, .int v3), (0, .ref hm), (1, .int a0)]) hx hb dX5_callsAt_38 rfl hl (by decide) rfl (fun ls hl => ?_)
      refine lv_iload_n hx hb dX5_callsAt_39 rfl (lv_at hl 0 rfl) ?_
      refine lv_if_ne (tgt := 45) hx hb dX5_callsAt_40 (by decide) (fun c6 => ?_) (fun c6 => ?_)
      · have hf := ie hf c6
        refine lv_iconst (v := (-1)) hx hb dX5_callsAt_45 (by decide) ?_
        refine lv_topi (fun x7 ex7 => ?_)
        have hf := bd_s hf ex7
        refine lv_istore (lv' := [(4, .int x7), (3, .int v5), (2, .int v3), (0, .ref hm), (1, .int a0)]) hx hb dX5_callsAt_46 hl (by decide) rfl (fun ls hl => ?_)
        refine lv_sipush (v := 2001) hx hb dX5_callsAt_48 (by decide) ?_
        refine lv_istore (lv' := [(5, .int 2001), (4, .int x7), (3, .int v5), (2, .int v3), (0, .ref hm), (1, .int a0)]) hx hb dX5_callsAt_51 hl (by decide) rfl (fun ls hl => ?_)
        have LP53 : ∀ (n10 : Nat) (x8 : Int32) (x9 : Int32) (ls : Array Slot), lv_has ls 7 [(0, .ref hm), (1, .int a0), (2, .int v3), (3, .int v5), (4, .int x8), (5, .int x9)] → f_X5_callsAt_L53 M mdy a0 v3 N mof v5 n10 x8 x9 = some r → W p l e (headSpec wsX5_callsAt ({ frames := 5, cells := 0, slots := 0, locals := 129 })).room s m ([.ref hm, .int a0] : List Value).toArray below meth c H locs 0 0 (MQ below (mQi D A r.1 [eM hm mh mo my mp r.2 mc, eH cI mh mhol, eO cI mo mof, eY cI my mdy, eP cJ mp mpd]) ([.ref hm, .int a0] : List Value).toArray s 0 0 A) (F0 m 53 ls []) := by
          intro n10
          induction n10 with
          | zero => intro x8 x9 ls hl hf; exact (no_s hf).elim
          | succ n10 ih10 =>
            intro x8 x9 ls hl hf
            rw [f_X5_callsAt_L53] at hf
            refine lv_iload hx hb dX5_callsAt_53 (lv_at hl 5 rfl) ?_
            refine lv_iload hx hb dX5_callsAt_55 (lv_at hl 4 rfl) ?_
            refine lv_isub hx hb dX5_callsAt_57 ?_
            refine lv_iconst (v := 1) hx hb dX5_callsAt_58 (by decide) ?_
            refine lv_icmp_le (tgt := 109) hx hb dX5_callsAt_59 (by decide) (fun c11 => ?_) (fun c11 => ?_)
            · have hf := it hf c11
              refine lv_iload hx hb dX5_callsAt_109 (lv_at hl 4 rfl) ?_
              refine W.widen (k := 0) (n := 0) (Nat.le_of_ble_eq_true rfl) (Nat.le_of_ble_eq_true rfl) ?_
              have e9 := Option.some.inj hf
              subst e9
              exact W.iret hx hb hr (fun t ht hW => ⟨⟨_, (), rfl, rfl, by rw [ht]; exact hP, hD⟩, hS.F ht⟩) hS.2.2 dX5_callsAt_111
            · have hf := ie hf c11
              refine lv_iload hx hb dX5_callsAt_62 (lv_at hl 5 rfl) ?_
              refine lv_iload hx hb dX5_callsAt_64 (lv_at hl 4 rfl) ?_
              refine lv_iadd hx hb dX5_callsAt_66 ?_
              refine lv_iconst (v := 2) hx hb dX5_callsAt_67 (by decide) ?_
              refine lv_idiv hx hb dX5_callsAt_68 (by decide) ?_
              refine lv_topi (fun x12 ex12 => ?_)
              have hf := bd_s hf ex12
              refine lv_istore (lv' := [(6, .int x12), (0, .ref hm), (1, .int a0), (2, .int v3), (3, .int v5), (4, .int x8), (5, .int x9)]) hx hb dX5_callsAt_69 hl (by decide) rfl (fun ls hl => ?_)
              refine lv_aload_n hx hb dX5_callsAt_71 rfl (lv_at hl 1 rfl) ?_
              refine lv_iload_n hx hb dX5_callsAt_72 rfl (lv_at hl 2 rfl) ?_
              refine lv_aload_n hx hb dX5_callsAt_73 rfl (lv_at hl 1 rfl) ?_
              refine lv_iload_n hx hb dX5_callsAt_74 rfl (lv_at hl 2 rfl) ?_
              refine lv_iload_n hx hb dX5_callsAt_75 rfl (lv_at hl 3 rfl) ?_
              obtain ⟨v13, hv13, hf⟩ := ob hf
              refine cSi (W.runV (As := [.int a0, .int v3]) (rest := [.int a0, .ref hm]) ⟨hx, hb, hml, hown, hts⟩ (m_X5_couponDay l D cI cJ cO hm mh mo my mp (va_up M 0 (0 : Int32)) mc mhol mof mdy mpd a0 v3 v13 hv13) (cwV 2 hts gX5_callsAt_X5_couponDay rfl rfl rfl (by decide +kernel) ⟨(Nat.le_of_ble_eq_true rfl), (Nat.le_of_ble_eq_true rfl)⟩) ⟨pw_blind, va_recv hK hP (ci := 4) (q0 := 0) rfl rfl, fun U hU hW => ⟨rfl, pw_at hZ hS hP hK hU hW (Or.inr rfl) [0, 1, 2, 3, 4] rfl⟩⟩ rfl rfl hl.1 rfl (lv_room (Nat.le_of_ble_eq_true rfl)) dX5_callsAt_76 ⟨(Nat.le_of_ble_eq_true rfl), (Nat.le_of_ble_eq_true rfl)⟩) ?_
              refine lv_iload_n hx hb dX5_callsAt_79 rfl (lv_at hl 4 rfl) ?_
              refine lv_iload hx hb dX5_callsAt_80 (lv_at hl 0 rfl) ?_
              obtain ⟨v14, hv14, hf⟩ := ob hf
              refine cSl (W.runV (As := [.int a0, .int v13, .int v5, .int x12]) (rest := []) ⟨hx, hb, hml, hown, hts⟩ (m_X5_worthOn l D cI cJ cO hm mh mo my mp (va_up M 0 (0 : Int32)) mc mhol mof mdy mpd a0 v13 v5 x12 N v14 hv14) (cwV 4 hts gX5_callsAt_X5_worthOn rfl rfl rfl (by decide +kernel) ⟨(Nat.le_of_ble_eq_true rfl), (Nat.le_of_ble_eq_true rfl)⟩) ⟨pw_blind, va_recv hK hP (ci := 4) (q0 := 0) rfl rfl, fun U hU hW => ⟨rfl, pw_at hZ hS hP hK hU hW (Or.inr rfl) [0, 1, 2, 3, 4] rfl⟩⟩ rfl rfl hl.1 rfl (lv_room (Nat.le_of_ble_eq_true rfl)) dX5_callsAt_82 ⟨(Nat.le_of_ble_eq_true rfl), (Nat.le_of_ble_eq_true rfl)⟩) ?_
              refine lv_aload_n hx hb dX5_callsAt_85 rfl (lv_at hl 1 rfl) ?_
              refine lv_iload_n hx hb dX5_callsAt_86 rfl (lv_at hl 2 rfl) ?_
              refine lv_iload_n hx hb dX5_callsAt_87 rfl (lv_at hl 4 rfl) ?_
              obtain ⟨v15, hv15, hf⟩ := ob hf
              refine cSl (W.runV (As := [.int a0, .int v5]) (rest := [.long v14]) ⟨hx, hb, hml, hown, hts⟩ (m_X5_callPaid l D cI cJ cO hm mh mo my mp (va_up M 0 (0 : Int32)) mc mhol mof mdy mpd a0 v5 v15 hv15) (cwV 2 hts gX5_callsAt_X5_callPaid rfl rfl rfl (by decide +kernel) ⟨(Nat.le_of_ble_eq_true rfl), (Nat.le_of_ble_eq_true rfl)⟩) ⟨pw_blind, va_recv hK hP (ci := 4) (q0 := 0) rfl rfl, fun U hU hW => ⟨rfl, pw_at hZ hS hP hK hU hW (Or.inr rfl) [0, 1, 2, 3, 4] rfl⟩⟩ rfl rfl hl.1 rfl (lv_room (Nat.le_of_ble_eq_true rfl)) dX5_callsAt_88 ⟨(Nat.le_of_ble_eq_true rfl), (Nat.le_of_ble_eq_true rfl)⟩) ?_
              refine W.lcmp hx hb dX5_callsAt_91 ?_
              refine lv_if_le (tgt := 102) hx hb dX5_callsAt_92 (by decide) (fun c16 => ?_) (fun c16 => ?_)
              · have hf := it hf c16
                refine lv_iload hx hb dX5_callsAt_102 (lv_at hl 0 rfl) ?_
                refine lv_istore (lv' := [(5, .int x12), (6, .int x12), (0, .ref hm), (1, .int a0), (2, .int v3), (3, .int v5), (4, .int x8)]) hx hb dX5_callsAt_104 hl (by decide) rfl (fun ls hl => ?_)
                refine lv_goto (tgt := 53) hx hb dX5_callsAt_106 (by decide) ?_
                exact ih10 x8 x12 ls (lv_sub hl [2, 3, 4, 5, 6, 0] rfl) hf
              · have hf := ie hf c16
                refine lv_iload hx hb dX5_callsAt_95 (lv_at hl 0 rfl) ?_
                refine lv_istore (lv' := [(4, .int x12), (6, .int x12), (0, .ref hm), (1, .int a0), (2, .int v3), (3, .int v5), (5, .int x9)]) hx hb dX5_callsAt_97 hl (by decide) rfl (fun ls hl => ?_)
                refine lv_goto (tgt := 106) hx hb dX5_callsAt_99 (by decide) ?_
                refine lv_goto (tgt := 53) hx hb dX5_callsAt_106 (by decide) ?_
                exact ih10 x12 x9 ls (lv_sub hl [2, 3, 4, 5, 0, 6] rfl) hf
        exact LP53 N x7 2001 ls (lv_sub hl [4, 5, 3, 2, 1, 0] rfl) hf
      · have hf := it hf c6
        refine lv_iconst (v := (-1)) hx hb dX5_callsAt_43 (by decide) ?_
        refine W.widen (k := 0) (n := 0) (Nat.le_of_ble_eq_true rfl) (Nat.le_of_ble_eq_true rfl) ?_
        have e9 := Option.some.inj hf
        subst e9
        exact W.iret hx hb hr (fun t ht hW => ⟨⟨_, (), rfl, rfl, by rw [ht]; exact hP, hD⟩, hS.F ht⟩) hS.2.2 dX5_callsAt_44
    · have hf := it hf c4
      refine lv_iconst (v := (-1)) hx hb dX5_callsAt_30 (by decide) ?_
      refine W.widen (k := 0) (n := 0) (Nat.le_of_ble_eq_true rfl) (Nat.le_of_ble_eq_true rfl) ?_
      have e9 := Option.some.inj hf
      subst e9
      exact W.iret hx hb hr (fun t ht hW => ⟨⟨_, (), rfl, rfl, by rw [ht]; exact hP, hD⟩, hS.F ht⟩) hS.2.2 dX5_callsAt_31
  · have hf := it hf c2
    refine lv_aload_n hx hb dX5_callsAt_13 rfl (lv_at hl 0 rfl) ?_
    refine lv_iconst (v := 1) hx hb dX5_callsAt_14 (by decide) ?_
    obtain ⟨v17, hv17, hf⟩ := ob hf
    have hPc := hP.sub (ws' := [eM hm mh mo my mp (va_up M 0 (0 : Int32)) mc, eH cI mh mhol, eO cI mo mof, eY cI my mdy, eP cJ mp mpd]) [0, 1, 2, 3, 4] rfl
    have hDc := hD.sub (ws' := [eM hm mh mo my mp (va_up M 0 (0 : Int32)) mc, eH cI mh mhol, eO cI mo mof, eY cI my mdy, eP cJ mp mpd]) [0, 1, 2, 3, 4] (by decide) rfl
    have hFc := va_free (wc := [eM hm mh mo my mp (va_up M 0 (0 : Int32)) mc, eH cI mh mhol, eO cI mo mof, eY cI my mdy, eP cJ mp mpd]) hD hS hA [0, 1, 2, 3, 4] rfl
    refine va_calli (va_runV (As := [.int 1]) (rest := []) ⟨hx, hb, hml, hown, hts⟩ (m_X5_no l D cI cJ cO hm mh mo my mp (va_up M 0 (0 : Int32)) mc mhol mof mdy mpd H.size 1 v17 hv17) (cwV 1 hts gX5_callsAt_X5_no rfl rfl rfl (by decide +kernel) ⟨(Nat.le_of_ble_eq_true rfl), (Nat.le_of_ble_eq_true rfl)⟩) ⟨mp_blind, va_recv hK hP (ci := 4) (q0 := 0) rfl rfl, fun U hU hW => ⟨rfl, mp_at hZ hS hPc hK hDc hFc hU hW (Or.inr rfl)⟩⟩ rfl rfl hl.1 rfl (lv_room (Nat.le_of_ble_eq_true rfl)) dX5_callsAt_15 ⟨(Nat.le_of_ble_eq_true rfl), (Nat.le_of_ble_eq_true rfl)⟩) hS (fun q _ h => hFc q h) hFc (fun rv17 u t H1 locs ht9 hvm hw hBx hz1 hk1 hS => ?_)
    subst hw
    obtain ⟨hP1, hD1⟩ := hBx
    rw [ht9] at hP1
    obtain ⟨hP, hD⟩ := va_join (wr := []) (w1 := [eM hm mh mo my mp v17.2 mc, eH cI mh mhol, eO cI mo mof, eY cI my mdy, eP cJ mp mpd]) hP hD [0, 1, 2, 3, 4] [] rfl rfl (by decide) (by decide) hk1 hFc hP1 hD1
    have hP := hP.sub (ws' := [eM hm mh mo my mp v17.2 mc, eH cI mh mhol, eO cI mo mof, eY cI my mdy, eP cJ mp mpd]) [0, 1, 2, 3, 4] rfl
    have hD := hD.sub (ws' := [eM hm mh mo my mp v17.2 mc, eH cI mh mhol, eO cI mo mof, eY cI my mdy, eP cJ mp mpd]) [0, 1, 2, 3, 4] (by decide) rfl
    generalize H1 = H at hP hS ⊢
    refine W.widen (k := 0) (n := 0) (Nat.le_of_ble_eq_true rfl) (Nat.le_of_ble_eq_true rfl) ?_
    have e9 := Option.some.inj hf
    subst e9
    exact W.iret hx hb hr (fun t ht hW => ⟨⟨_, (), rfl, rfl, by rw [ht]; exact hP, hD⟩, hS.F ht⟩) hS.2.2 dX5_callsAt_18
theorem inX5_buy_X5 : ∀ w ∈ wsX50, w ∈ wsX5_buy := by decide +kernel
set_option maxHeartbeats 4000000 in
set_option maxRecDepth 100000 in
theorem m_X5_buy (l : Launch) (D : va_G) (cI cJ cO : ClassId) (hm : Nat) (mh : Nat) (mo : Nat) (my : Nat) (mp : Nat) (M : Nat → Int32) (mc : Int64) (mhol : Nat → Int32) (mof : Nat → Int32) (mdy : Nat → Int32) (mpd : Nat → Int64) (sz : Nat) (a0 : Int32) (a1 : Int32) (a2 : Int32) (N : Nat) (r : Int64 × (Nat → Int32) × Int64 × (Nat → Int32)) (hf : f_X5_buy N M mc mhol mof mdy a0 a1 a2 = some r) : Met l yX5_buy wsX5_buy ({ frames := 5, cells := 0, slots := 0, locals := 116 }) (va_Pc [.ref hm, .int a0, .int a1, .int a2] (mP D (ty3 cI cJ cO) none [eM hm mh mo my mp M mc, eH cI mh mhol, eO cI mo mof, eY cI my mdy, eP cJ mp mpd] sz)) (mQl D (va_A [eM hm mh mo my mp M mc, eH cI mh mhol, eO cI mo mof, eY cI my mdy, eP cJ mp mpd] sz) r.1 [eM hm mh mo my mp r.2.1 r.2.2.1, eH cI mh mhol, eO cI mo r.2.2.2, eY cI my mdy, eP cJ mp mpd]) 0 0 (va_A [eM hm mh mo my mp M mc, eH cI mh mhol, eO cI mo mof, eY cI my mdy, eP cJ mp mpd] sz) := by
  refine Met.ofW (cc := cX5_buy) (maxL := 6) (ret := (some .long)) (by decide) rfl ?_
  intro p e s m args below meth c s₁ Bd hml hv
  obtain ⟨rfl, hsz, hZ, hP, hK, hD0⟩ := hv
  have hx := Bd.exec
  have hb := Bd.bytes
  have hr := Bd.returns
  have hts := atoms_spec (ws := wsX5_buy) Bd.pre
  have hown : s.vm.findClass RX5 = some m.cls := findClass_of_methodNamed Bd.named
  have hlocks := Bd.notSynchronized
  subst hsz
  have hD := hD0.self (sz := s.heap.size)
  generalize hAe : va_A [eM hm mh mo my mp M mc, eH cI mh mhol, eO cI mo mof, eY cI my mdy, eP cJ mp mpd] s.heap.size = A at hD hZ ⊢
  have hA : ∀ q : Nat, s.heap.size ≤ q → A q := fun q h => by rw [← hAe]; exact Or.inr h
  have hS : va_S A s.heap s.heap [] := va_S.rf
  have hl := lv_entry ([.ref hm, .int a0, .int a1, .int a2]) (n := 6) (Nat.le_of_ble_eq_true rfl)
  rw [lg_entry_eq]
  generalize (lg_sl ([.ref hm, .int a0, .int a1, .int a2]) ++ List.replicate (6 - (lg_sl ([.ref hm, .int a0, .int a1, .int a2])).length) Slot.unset).toArray = ls at hl ⊢
  have hl : lv_has ls 6 [(0, .ref hm), (1, .int a0), (2, .int a1), (3, .int a2)] := hl
  unfold f_X5_buy at hf
  refine lv_aload_n hx hb dX5_buy_0 rfl (lv_at hl 0 rfl) ?_
  refine lv_iconst (v := 0) hx hb dX5_buy_1 (by decide) ?_
  refine va_put (D := D) (ci := 4) (v := .int 0) (ty := .int) (C := RX5) (T := TX5) (N := 10) hx hb hts inX5_buy_X5 tyX5 tyX5_ok nmX5 hown hK hP hD hS 0 rfl rfl 0 (by decide) (hts (.fieldLink RX5 41 "BondDeskModel" "thrown" "I") (by decide +kernel)) (fun _ h9 => h9) rfl (by decide +kernel) rfl rfl (Nat.le_of_ble_eq_true rfl) dX5_buy_2 (fun H locs hP hD hS => ?_)
  have hP : va_P D vwCl [eM hm mh mo my mp (va_up M 0 (0 : Int32)) mc, eH cI mh mhol, eO cI mo mof, eY cI my mdy, eP cJ mp mpd] H := hP
  have hD : va_D A [eM hm mh mo my mp (va_up M 0 (0 : Int32)) mc, eH cI mh mhol, eO cI mo mof, eY cI my mdy, eP cJ mp mpd] := hD
  refine lv_aload_n hx hb dX5_buy_5 rfl (lv_at hl 0 rfl) ?_
  refine lv_iload_n hx hb dX5_buy_6 rfl (lv_at hl 1 rfl) ?_
  obtain ⟨v1, hv1, hf⟩ := ob hf
  refine cSz (W.runV (As := [.int a0]) (rest := []) ⟨hx, hb, hml, hown, hts⟩ (m_X5_isBond l D cI cJ cO hm mh mo my mp (va_up M 0 (0 : Int32)) mc mhol mof mdy mpd a0 v1 hv1) (cwV 1 hts gX5_buy_X5_isBond rfl rfl rfl (by decide +kernel) ⟨(Nat.le_of_ble_eq_true rfl), (Nat.le_of_ble_eq_true rfl)⟩) ⟨pw_blind, va_recv hK hP (ci := 4) (q0 := 0) rfl rfl, fun U hU hW => ⟨rfl, pw_at hZ hS hP hK hU hW (Or.inr rfl) [0, 1, 2, 3, 4] rfl⟩⟩ rfl rfl hl.1 rfl (lv_room (Nat.le_of_ble_eq_true rfl)) dX5_buy_7 ⟨(Nat.le_of_ble_eq_true rfl), (Nat.le_of_ble_eq_true rfl)⟩) (fun zv1 => ?_)
  refine lv_if_ne (tgt := 20) hx hb dX5_buy_10 (by decide) (fun c2 => ?_) (fun c2 => ?_)
  · have hf := ie hf c2
    refine lv_iload_n hx hb dX5_buy_20 rfl (lv_at hl 2 rfl) ?_
    refine lv_iconst (v := 1) hx hb dX5_buy_21 (by decide) ?_
    refine lv_sipush (v := 1000) hx hb dX5_buy_22 (by decide) ?_
    obtain ⟨v3, hv3, hf⟩ := ob hf
    refine cSz (W.runS (As := [.int a1, .int 1, .int 1000]) (rest := []) ⟨hx, hb, hml, hown, hts⟩ (m_X5_isIn l D cI cJ cO a1 1 1000 v3 hv3) (va_cwS 3 hts gX5_buy_X5_isIn rfl rfl rfl (by decide +kernel) ⟨(Nat.le_of_ble_eq_true rfl), (Nat.le_of_ble_eq_true rfl)⟩) ⟨pw_blind, fun U hU hW => ⟨rfl, pw_at hZ hS hP hK hU hW (Or.inr rfl) [] rfl⟩⟩ rfl rfl hl.1 rfl (lv_room (Nat.le_of_ble_eq_true rfl)) dX5_buy_25 ⟨(Nat.le_of_ble_eq_true rfl), (Nat.le_of_ble_eq_true rfl)⟩) (fun zv3 => ?_)
    refine lv_if_eq (tgt := 42) hx hb dX5_buy_28 (by decide) (fun c4 => ?_) (fun c4 => ?_)
    · have hf := it hf c4
      refine lv_aload_n hx hb dX5_buy_42 rfl (lv_at hl 0 rfl) ?_
      refine lv_iconst (v := 2) hx hb dX5_buy_43 (by decide) ?_
      obtain ⟨v5, hv5, hf⟩ := ob hf
      have hPc := hP.sub (ws' := [eM hm mh mo my mp (va_up M 0 (0 : Int32)) mc, eH cI mh mhol, eO cI mo mof, eY cI my mdy, eP cJ mp mpd]) [0, 1, 2, 3, 4] rfl
      have hDc := hD.sub (ws' := [eM hm mh mo my mp (va_up M 0 (0 : Int32)) mc, eH cI mh mhol, eO cI mo mof, eY cI my mdy, eP cJ mp mpd]) [0, 1, 2, 3, 4] (by decide) rfl
      have hFc := va_free (wc := [eM hm mh mo my mp (va_up M 0 (0 : Int32)) mc, eH cI mh mhol, eO cI mo mof, eY cI my mdy, eP cJ mp mpd]) hD hS hA [0, 1, 2, 3, 4] rfl
      refine va_calli (va_runV (As := [.int 2]) (rest := []) ⟨hx, hb, hml, hown, hts⟩ (m_X5_no l D cI cJ cO hm mh mo my mp (va_up M 0 (0 : Int32)) mc mhol mof mdy mpd H.size 2 v5 hv5) (cwV 1 hts gX5_buy_X5_no rfl rfl rfl (by decide +kernel) ⟨(Nat.le_of_ble_eq_true rfl), (Nat.le_of_ble_eq_true rfl)⟩) ⟨mp_blind, va_recv hK hP (ci := 4) (q0 := 0) rfl rfl, fun U hU hW => ⟨rfl, mp_at hZ hS hPc hK hDc hFc hU hW (Or.inr rfl)⟩⟩ rfl rfl hl.1 rfl (lv_room (Nat.le_of_ble_eq_true rfl)) dX5_buy_44 ⟨(Nat.le_of_ble_eq_true rfl), (Nat.le_of_ble_eq_true rfl)⟩) hS (fun q _ h => hFc q h) hFc (fun rv5 u t H1 locs ht9 hvm hw hBx hz1 hk1 hS => ?_)
      subst hw
      obtain ⟨hP1, hD1⟩ := hBx
      rw [ht9] at hP1
      obtain ⟨hP, hD⟩ := va_join (wr := []) (w1 := [eM hm mh mo my mp v5.2 mc, eH cI mh mhol, eO cI mo mof, eY cI my mdy, eP cJ mp mpd]) hP hD [0, 1, 2, 3, 4] [] rfl rfl (by decide) (by decide) hk1 hFc hP1 hD1
      have hP := hP.sub (ws' := [eM hm mh mo my mp v5.2 mc, eH cI mh mhol, eO cI mo mof, eY cI my mdy, eP cJ mp mpd]) [0, 1, 2, 3, 4] rfl
      have hD := hD.sub (ws' := [eM hm mh mo my mp v5.2 mc, eH cI mh mhol, eO cI mo mof, eY cI my mdy, eP cJ mp mpd]) [0, 1, 2, 3, 4] (by decide) rfl
      generalize H1 = H at hP hS ⊢
      refine lv_i2l hx hb dX5_buy_47 rfl ?_
      refine W.widen (k := 0) (n := 0) (Nat.le_of_ble_eq_true rfl) (Nat.le_of_ble_eq_true rfl) ?_
      have e9 := Option.some.inj hf
      subst e9
      exact W.lret hx hb hr (fun t ht hW => ⟨⟨_, (), rfl, rfl, by rw [ht]; exact hP, hD⟩, hS.F ht⟩) hS.2.2 dX5_buy_48
    · have hf := ie hf c4
      refine lv_iload_n hx hb dX5_buy_31 rfl (lv_at hl 3 rfl) ?_
      refine lv_iconst (v := 1) hx hb dX5_buy_32 (by decide) ?_
      refine lv_sipush (v := 30000) hx hb dX5_buy_33 (by decide) ?_
      obtain ⟨v6, hv6, hf⟩ := ob hf
      refine cSz (W.runS (As := [.int a2, .int 1, .int 30000]) (rest := []) ⟨hx, hb, hml, hown, hts⟩ (m_X5_isIn l D cI cJ cO a2 1 30000 v6 hv6) (va_cwS 3 hts gX5_buy_X5_isIn rfl rfl rfl (by decide +kernel) ⟨(Nat.le_of_ble_eq_true rfl), (Nat.le_of_ble_eq_true rfl)⟩) ⟨pw_blind, fun U hU hW => ⟨rfl, pw_at hZ hS hP hK hU hW (Or.inr rfl) [] rfl⟩⟩ rfl rfl hl.1 rfl (lv_room (Nat.le_of_ble_eq_true rfl)) dX5_buy_36 ⟨(Nat.le_of_ble_eq_true rfl), (Nat.le_of_ble_eq_true rfl)⟩) (fun zv6 => ?_)
      refine lv_if_ne (tgt := 49) hx hb dX5_buy_39 (by decide) (fun c7 => ?_) (fun c7 => ?_)
      · have hf := ie hf c7
        refine lv_iload_n hx hb dX5_buy_49 rfl (lv_at hl 2 rfl) ?_
        refine lv_i2l hx hb dX5_buy_50 rfl ?_
        refine lv_aload_n hx hb dX5_buy_51 rfl (lv_at hl 0 rfl) ?_
        refine lv_iload_n hx hb dX5_buy_52 rfl (lv_at hl 1 rfl) ?_
        refine lv_iload_n hx hb dX5_buy_53 rfl (lv_at hl 3 rfl) ?_
        obtain ⟨v8, hv8, hf⟩ := ob hf
        refine cSl (W.runV (As := [.int a0, .int a2]) (rest := [.long a1.toInt64]) ⟨hx, hb, hml, hown, hts⟩ (m_X5_fullPrice l D cI cJ cO hm mh mo my mp (va_up M 0 (0 : Int32)) mc mhol mof mdy mpd a0 a2 N v8 hv8) (cwV 2 hts gX5_buy_X5_fullPrice rfl rfl rfl (by decide +kernel) ⟨(Nat.le_of_ble_eq_true rfl), (Nat.le_of_ble_eq_true rfl)⟩) ⟨pw_blind, va_recv hK hP (ci := 4) (q0 := 0) rfl rfl, fun U hU hW => ⟨rfl, pw_at hZ hS hP hK hU hW (Or.inr rfl) [0, 1, 2, 3, 4] rfl⟩⟩ rfl rfl hl.1 rfl (lv_room (Nat.le_of_ble_eq_true rfl)) dX5_buy_54 ⟨(Nat.le_of_ble_eq_true rfl), (Nat.le_of_ble_eq_true rfl)⟩) ?_
        refine lv_lmul hx hb dX5_buy_57 ?_
        refine lv_topl (fun x9 ex9 => ?_)
        have hf := bd_s hf ex9
        refine lv_lstore (lv' := [(4, .long x9), (0, .ref hm), (1, .int a0), (2, .int a1), (3, .int a2)]) hx hb dX5_buy_58 hl (by decide) rfl (fun ls hl => ?_)
        refine lv_aload_n hx hb dX5_buy_60 rfl (lv_at hl 1 rfl) ?_
        refine lv_aload_n hx hb dX5_buy_61 rfl (lv_at hl 1 rfl) ?_
        refine va_get (D := D) (ci := 4) (v := .int (M 1)) (C := RX5) (T := TX5) (N := 10) hx hb hts inX5_buy_X5 hown hK hP 0 rfl rfl 1 (by decide) (hts (.fieldLink RX5 14 "BondDeskModel" "today" "I") (by decide +kernel)) (fun _ h9 => h9) rfl dX5_buy_62 ?_
        obtain ⟨v10, hv10, hf⟩ := ob hf
        refine cSz (W.runV (As := [.int (M 1)]) (rest := []) ⟨hx, hb, hml, hown, hts⟩ (m_X5_isWorking l D cI cJ cO hm mh mo my mp (va_up M 0 (0 : Int32)) mc mhol mof mdy mpd (M 1) N v10 hv10) (cwV 1 hts gX5_buy_X5_isWorking rfl rfl rfl (by decide +kernel) ⟨(Nat.le_of_ble_eq_true rfl), (Nat.le_of_ble_eq_true rfl)⟩) ⟨pw_blind, va_recv hK hP (ci := 4) (q0 := 0) rfl rfl, fun U hU hW => ⟨rfl, pw_at hZ hS hP hK hU hW (Or.inr rfl) [0, 1, 2, 3, 4] rfl⟩⟩ rfl rfl hl.1 rfl (lv_room (Nat.le_of_ble_eq_true rfl)) dX5_buy_65 ⟨(Nat.le_of_ble_eq_true rfl), (Nat.le_of_ble_eq_true rfl)⟩) (fun zv10 => ?_)
        refine lv_if_eq (tgt := 117) hx hb dX5_buy_68 (by decide) (fun c11 => ?_) (fun c11 => ?_)
        · have hf := it hf c11
          refine lv_aload_n hx hb dX5_buy_117 rfl (lv_at hl 1 rfl) ?_
          refine lv_iconst (v := 3) hx hb dX5_buy_118 (by decide) ?_
          obtain ⟨v12, hv12, hf⟩ := ob hf
          have hPc := hP.sub (ws' := [eM hm mh mo my mp (va_up M 0 (0 : Int32)) mc, eH cI mh mhol, eO cI mo mof, eY cI my mdy, eP cJ mp mpd]) [0, 1, 2, 3, 4] rfl
          have hDc := hD.sub (ws' := [eM hm mh mo my mp (va_up M 0 (0 : Int32)) mc, eH cI mh mhol, eO cI mo mof, eY cI my mdy, eP cJ mp mpd]) [0, 1, 2, 3, 4] (by decide) rfl
          have hFc := va_free (wc := [eM hm mh mo my mp (va_up M 0 (0 : Int32)) mc, eH cI mh mhol, eO cI mo mof, eY cI my mdy, eP cJ mp mpd]) hD hS hA [0, 1, 2, 3, 4] rfl
          refine va_calli (va_runV (As := [.int 3]) (rest := []) ⟨hx, hb, hml, hown, hts⟩ (m_X5_no l D cI cJ cO hm mh mo my mp (va_up M 0 (0 : Int32)) mc mhol mof mdy mpd H.size 3 v12 hv12) (cwV 1 hts gX5_buy_X5_no rfl rfl rfl (by decide +kernel) ⟨(Nat.le_of_ble_eq_true rfl), (Nat.le_of_ble_eq_true rfl)⟩) ⟨mp_blind, va_recv hK hP (ci := 4) (q0 := 0) rfl rfl, fun U hU hW => ⟨rfl, mp_at hZ hS hPc hK hDc hFc hU hW (Or.inr rfl)⟩⟩ rfl rfl hl.1 rfl (lv_room (Nat.le_of_ble_eq_true rfl)) dX5_buy_119 ⟨(Nat.le_of_ble_eq_true rfl), (Nat.le_of_ble_eq_true rfl)⟩) hS (fun q _ h => hFc q h) hFc (fun rv12 u t H1 locs ht9 hvm hw hBx hz1 hk1 hS => ?_)
          subst hw
          obtain ⟨hP1, hD1⟩ := hBx
          rw [ht9] at hP1
          obtain ⟨hP, hD⟩ := va_join (wr := []) (w1 := [eM hm mh mo my mp v12.2 mc, eH cI mh mhol, eO cI mo mof, eY cI my mdy, eP cJ mp mpd]) hP hD [0, 1, 2, 3, 4] [] rfl rfl (by decide) (by decide) hk1 hFc hP1 hD1
          have hP := hP.sub (ws' := [eM hm mh mo my mp v12.2 mc, eH cI mh mhol, eO cI mo mof, eY cI my mdy, eP cJ mp mpd]) [0, 1, 2, 3, 4] rfl
          have hD := hD.sub (ws' := [eM hm mh mo my mp v12.2 mc, eH cI mh mhol, eO cI mo mof, eY cI my mdy, eP cJ mp mpd]) [0, 1, 2, 3, 4] (by decide) rfl
          generalize H1 = H at hP hS ⊢
          refine lv_i2l hx hb dX5_buy_122 rfl ?_
          refine W.widen (k := 0) (n := 0) (Nat.le_of_ble_eq_true rfl) (Nat.le_of_ble_eq_true rfl) ?_
          have e9 := Option.some.inj hf
          subst e9
          exact W.lret hx hb hr (fun t ht hW => ⟨⟨_, (), rfl, rfl, by rw [ht]; exact hP, hD⟩, hS.F ht⟩) hS.2.2 dX5_buy_123
        · have hf := ie hf c11
          refine lv_aload_n hx hb dX5_buy_71 rfl (lv_at hl 1 rfl) ?_
          refine lv_iload_n hx hb dX5_buy_72 rfl (lv_at hl 2 rfl) ?_
          obtain ⟨v13, hv13, hf⟩ := ob hf
          refine cSz (W.runV (As := [.int a0]) (rest := []) ⟨hx, hb, hml, hown, hts⟩ (m_X5_isThere l D cI cJ cO hm mh mo my mp (va_up M 0 (0 : Int32)) mc mhol mof mdy mpd a0 v13 hv13) (cwV 1 hts gX5_buy_X5_isThere rfl rfl rfl (by decide +kernel) ⟨(Nat.le_of_ble_eq_true rfl), (Nat.le_of_ble_eq_true rfl)⟩) ⟨pw_blind, va_recv hK hP (ci := 4) (q0 := 0) rfl rfl, fun U hU hW => ⟨rfl, pw_at hZ hS hP hK hU hW (Or.inr rfl) [0, 1, 2, 3, 4] rfl⟩⟩ rfl rfl hl.1 rfl (lv_room (Nat.le_of_ble_eq_true rfl)) dX5_buy_73 ⟨(Nat.le_of_ble_eq_true rfl), (Nat.le_of_ble_eq_true rfl)⟩) (fun zv13 => ?_)
          refine lv_if_eq (tgt := 117) hx hb dX5_buy_76 (by decide) (fun c14 => ?_) (fun c14 => ?_)
          · have hf := it hf c14
            refine lv_aload_n hx hb dX5_buy_117 rfl (lv_at hl 1 rfl) ?_
            refine lv_iconst (v := 3) hx hb dX5_buy_118 (by decide) ?_
            obtain ⟨v15, hv15, hf⟩ := ob hf
            have hPc := hP.sub (ws' := [eM hm mh mo my mp (va_up M 0 (0 : Int32)) mc, eH cI mh mhol, eO cI mo mof, eY cI my mdy, eP cJ mp mpd]) [0, 1, 2, 3, 4] rfl
            have hDc := hD.sub (ws' := [eM hm mh mo my mp (va_up M 0 (0 : Int32)) mc, eH cI mh mhol, eO cI mo mof, eY cI my mdy, eP cJ mp mpd]) [0, 1, 2, 3, 4] (by decide) rfl
            have hFc := va_free (wc := [eM hm mh mo my mp (va_up M 0 (0 : Int32)) mc, eH cI mh mhol, eO cI mo mof, eY cI my mdy, eP cJ mp mpd]) hD hS hA [0, 1, 2, 3, 4] rfl
            refine va_calli (va_runV (As := [.int 3]) (rest := []) ⟨hx, hb, hml, hown, hts⟩ (m_X5_no l D cI cJ cO hm mh mo my mp (va_up M 0 (0 : Int32)) mc mhol mof mdy mpd H.size 3 v15 hv15) (cwV 1 hts gX5_buy_X5_no rfl rfl rfl (by decide +kernel) ⟨(Nat.le_of_ble_eq_true rfl), (Nat.le_of_ble_eq_true rfl)⟩) ⟨mp_blind, va_recv hK hP (ci := 4) (q0 := 0) rfl rfl, fun U hU hW => ⟨rfl, mp_at hZ hS hPc hK hDc hFc hU hW (Or.inr rfl)⟩⟩ rfl rfl hl.1 rfl (lv_room (Nat.le_of_ble_eq_true rfl)) dX5_buy_119 ⟨(Nat.le_of_ble_eq_true rfl), (Nat.le_of_ble_eq_true rfl)⟩) hS (fun q _ h => hFc q h) hFc (fun rv15 u t H1 locs ht9 hvm hw hBx hz1 hk1 hS => ?_)
            subst hw
            obtain ⟨hP1, hD1⟩ := hBx
            rw [ht9] at hP1
            obtain ⟨hP, hD⟩ := va_join (wr := []) (w1 := [eM hm mh mo my mp v15.2 mc, eH cI mh mhol, eO cI mo mof, eY cI my mdy, eP cJ mp mpd]) hP hD [0, 1, 2, 3, 4] [] rfl rfl (by decide) (by decide) hk1 hFc hP1 hD1
            have hP := hP.sub (ws' := [eM hm mh mo my mp v15.2 mc, eH cI mh mhol, eO cI mo mof, eY cI my mdy, eP cJ mp mpd]) [0, 1, 2, 3, 4] rfl
            have hD := hD.sub (ws' := [eM hm mh mo my mp v15.2 mc, eH cI mh mhol, eO cI mo mof, eY cI my mdy, eP cJ mp mpd]) [0, 1, 2, 3, 4] (by decide) rfl
            generalize H1 = H at hP hS ⊢
            refine lv_i2l hx hb dX5_buy_122 rfl ?_
            refine W.widen (k := 0) (n := 0) (Nat.le_of_ble_eq_true rfl) (Nat.le_of_ble_eq_true rfl) ?_
            have e9 := Option.some.inj hf
            subst e9
            exact W.lret hx hb hr (fun t ht hW => ⟨⟨_, (), rfl, rfl, by rw [ht]; exact hP, hD⟩, hS.F ht⟩) hS.2.2 dX5_buy_123
          · have hf := ie hf c14
            refine lv_aload_n hx hb dX5_buy_79 rfl (lv_at hl 1 rfl) ?_
            refine va_get (D := D) (ci := 4) (v := .int (M 1)) (C := RX5) (T := TX5) (N := 10) hx hb hts inX5_buy_X5 hown hK hP 0 rfl rfl 1 (by decide) (hts (.fieldLink RX5 14 "BondDeskModel" "today" "I") (by decide +kernel)) (fun _ h9 => h9) rfl dX5_buy_80 ?_
            refine lv_aload_n hx hb dX5_buy_83 rfl (lv_at hl 1 rfl) ?_
            refine lv_iload_n hx hb dX5_buy_84 rfl (lv_at hl 2 rfl) ?_
            refine lv_iconst (v := 0) hx hb dX5_buy_85 (by decide) ?_
            obtain ⟨v16, hv16, hf⟩ := ob hf
            refine cSi (W.runV (As := [.int a0, .int 0]) (rest := [.int (M 1)]) ⟨hx, hb, hml, hown, hts⟩ (m_X5_own l D cI cJ cO hm mh mo my mp (va_up M 0 (0 : Int32)) mc mhol mof mdy mpd a0 0 v16 hv16) (cwV 2 hts gX5_buy_X5_own rfl rfl rfl (by decide +kernel) ⟨(Nat.le_of_ble_eq_true rfl), (Nat.le_of_ble_eq_true rfl)⟩) ⟨pw_blind, va_recv hK hP (ci := 4) (q0 := 0) rfl rfl, fun U hU hW => ⟨rfl, pw_at hZ hS hP hK hU hW (Or.inr rfl) [0, 1, 2, 3, 4] rfl⟩⟩ rfl rfl hl.1 rfl (lv_room (Nat.le_of_ble_eq_true rfl)) dX5_buy_86 ⟨(Nat.le_of_ble_eq_true rfl), (Nat.le_of_ble_eq_true rfl)⟩) ?_
            refine lv_icmp_lt (tgt := 117) hx hb dX5_buy_89 (by decide) (fun c17 => ?_) (fun c17 => ?_)
            · have hf := it hf c17
              refine lv_aload_n hx hb dX5_buy_117 rfl (lv_at hl 1 rfl) ?_
              refine lv_iconst (v := 3) hx hb dX5_buy_118 (by decide) ?_
              obtain ⟨v18, hv18, hf⟩ := ob hf
              have hPc := hP.sub (ws' := [eM hm mh mo my mp (va_up M 0 (0 : Int32)) mc, eH cI mh mhol, eO cI mo mof, eY cI my mdy, eP cJ mp mpd]) [0, 1, 2, 3, 4] rfl
              have hDc := hD.sub (ws' := [eM hm mh mo my mp (va_up M 0 (0 : Int32)) mc, eH cI mh mhol, eO cI mo mof, eY cI my mdy, eP cJ mp mpd]) [0, 1, 2, 3, 4] (by decide) rfl
              have hFc := va_free (wc := [eM hm mh mo my mp (va_up M 0 (0 : Int32)) mc, eH cI mh mhol, eO cI mo mof, eY cI my mdy, eP cJ mp mpd]) hD hS hA [0, 1, 2, 3, 4] rfl
              refine va_calli (va_runV (As := [.int 3]) (rest := []) ⟨hx, hb, hml, hown, hts⟩ (m_X5_no l D cI cJ cO hm mh mo my mp (va_up M 0 (0 : Int32)) mc mhol mof mdy mpd H.size 3 v18 hv18) (cwV 1 hts gX5_buy_X5_no rfl rfl rfl (by decide +kernel) ⟨(Nat.le_of_ble_eq_true rfl), (Nat.le_of_ble_eq_true rfl)⟩) ⟨mp_blind, va_recv hK hP (ci := 4) (q0 := 0) rfl rfl, fun U hU hW => ⟨rfl, mp_at hZ hS hPc hK hDc hFc hU hW (Or.inr rfl)⟩⟩ rfl rfl hl.1 rfl (lv_room (Nat.le_of_ble_eq_true rfl)) dX5_buy_119 ⟨(Nat.le_of_ble_eq_true rfl), (Nat.le_of_ble_eq_true rfl)⟩) hS (fun q _ h => hFc q h) hFc (fun rv18 u t H1 locs ht9 hvm hw hBx hz1 hk1 hS => ?_)
              subst hw
              obtain ⟨hP1, hD1⟩ := hBx
              rw [ht9] at hP1
              obtain ⟨hP, hD⟩ := va_join (wr := []) (w1 := [eM hm mh mo my mp v18.2 mc, eH cI mh mhol, eO cI mo mof, eY cI my mdy, eP cJ mp mpd]) hP hD [0, 1, 2, 3, 4] [] rfl rfl (by decide) (by decide) hk1 hFc hP1 hD1
              have hP := hP.sub (ws' := [eM hm mh mo my mp v18.2 mc, eH cI mh mhol, eO cI mo mof, eY cI my mdy, eP cJ mp mpd]) [0, 1, 2, 3, 4] rfl
              have hD := hD.sub (ws' := [eM hm mh mo my mp v18.2 mc, eH cI mh mhol, eO cI mo mof, eY cI my mdy, eP cJ mp mpd]) [0, 1, 2, 3, 4] (by decide) rfl
              generalize H1 = H at hP hS ⊢
              refine lv_i2l hx hb dX5_buy_122 rfl ?_
              refine W.widen (k := 0) (n := 0) (Nat.le_of_ble_eq_true rfl) (Nat.le_of_ble_eq_true rfl) ?_
              have e9 := Option.some.inj hf
              subst e9
              exact W.lret hx hb hr (fun t ht hW => ⟨⟨_, (), rfl, rfl, by rw [ht]; exact hP, hD⟩, hS.F ht⟩) hS.2.2 dX5_buy_123
            · have hf := ie hf c17
              refine lv_aload_n hx hb dX5_buy_92 rfl (lv_at hl 1 rfl) ?_
              refine lv_iload_n hx hb dX5_buy_93 rfl (lv_at hl 2 rfl) ?_
              refine lv_bipush (v := 9) hx hb dX5_buy_94 (by decide) ?_
              obtain ⟨v19, hv19, hf⟩ := ob hf
              refine cSi (W.runV (As := [.int a0, .int 9]) (rest := []) ⟨hx, hb, hml, hown, hts⟩ (m_X5_own l D cI cJ cO hm mh mo my mp (va_up M 0 (0 : Int32)) mc mhol mof mdy mpd a0 9 v19 hv19) (cwV 2 hts gX5_buy_X5_own rfl rfl rfl (by decide +kernel) ⟨(Nat.le_of_ble_eq_true rfl), (Nat.le_of_ble_eq_true rfl)⟩) ⟨pw_blind, va_recv hK hP (ci := 4) (q0 := 0) rfl rfl, fun U hU hW => ⟨rfl, pw_at hZ hS hP hK hU hW (Or.inr rfl) [0, 1, 2, 3, 4] rfl⟩⟩ rfl rfl hl.1 rfl (lv_room (Nat.le_of_ble_eq_true rfl)) dX5_buy_96 ⟨(Nat.le_of_ble_eq_true rfl), (Nat.le_of_ble_eq_true rfl)⟩) ?_
              refine lv_iload_n hx hb dX5_buy_99 rfl (lv_at hl 3 rfl) ?_
              refine lv_iadd hx hb dX5_buy_100 ?_
              refine lv_sipush (v := 1000) hx hb dX5_buy_101 (by decide) ?_
              refine lv_icmp_gt (tgt := 117) hx hb dX5_buy_104 (by decide) (fun c20 => ?_) (fun c20 => ?_)
              · have hf := it hf c20
                refine lv_aload_n hx hb dX5_buy_117 rfl (lv_at hl 1 rfl) ?_
                refine lv_iconst (v := 3) hx hb dX5_buy_118 (by decide) ?_
                obtain ⟨v21, hv21, hf⟩ := ob hf
                have hPc := hP.sub (ws' := [eM hm mh mo my mp (va_up M 0 (0 : Int32)) mc, eH cI mh mhol, eO cI mo mof, eY cI my mdy, eP cJ mp mpd]) [0, 1, 2, 3, 4] rfl
                have hDc := hD.sub (ws' := [eM hm mh mo my mp (va_up M 0 (0 : Int32)) mc, eH cI mh mhol, eO cI mo mof, eY cI my mdy, eP cJ mp mpd]) [0, 1, 2, 3, 4] (by decide) rfl
                have hFc := va_free (wc := [eM hm mh mo my mp (va_up M 0 (0 : Int32)) mc, eH cI mh mhol, eO cI mo mof, eY cI my mdy, eP cJ mp mpd]) hD hS hA [0, 1, 2, 3, 4] rfl
                refine va_calli (va_runV (As := [.int 3]) (rest := []) ⟨hx, hb, hml, hown, hts⟩ (m_X5_no l D cI cJ cO hm mh mo my mp (va_up M 0 (0 : Int32)) mc mhol mof mdy mpd H.size 3 v21 hv21) (cwV 1 hts gX5_buy_X5_no rfl rfl rfl (by decide +kernel) ⟨(Nat.le_of_ble_eq_true rfl), (Nat.le_of_ble_eq_true rfl)⟩) ⟨mp_blind, va_recv hK hP (ci := 4) (q0 := 0) rfl rfl, fun U hU hW => ⟨rfl, mp_at hZ hS hPc hK hDc hFc hU hW (Or.inr rfl)⟩⟩ rfl rfl hl.1 rfl (lv_room (Nat.le_of_ble_eq_true rfl)) dX5_buy_119 ⟨(Nat.le_of_ble_eq_true rfl), (Nat.le_of_ble_eq_true rfl)⟩) hS (fun q _ h => hFc q h) hFc (fun rv21 u t H1 locs ht9 hvm hw hBx hz1 hk1 hS => ?_)
                subst hw
                obtain ⟨hP1, hD1⟩ := hBx
                rw [ht9] at hP1
                obtain ⟨hP, hD⟩ := va_join (wr := []) (w1 := [eM hm mh mo my mp v21.2 mc, eH cI mh mhol, eO cI mo mof, eY cI my mdy, eP cJ mp mpd]) hP hD [0, 1, 2, 3, 4] [] rfl rfl (by decide) (by decide) hk1 hFc hP1 hD1
                have hP := hP.sub (ws' := [eM hm mh mo my mp v21.2 mc, eH cI mh mhol, eO cI mo mof, eY cI my mdy, eP cJ mp mpd]) [0, 1, 2, 3, 4] rfl
                have hD := hD.sub (ws' := [eM hm mh mo my mp v21.2 mc, eH cI mh mhol, eO cI mo mof, eY cI my mdy, eP cJ mp mpd]) [0, 1, 2, 3, 4] (by decide) rfl
                generalize H1 = H at hP hS ⊢
                refine lv_i2l hx hb dX5_buy_122 rfl ?_
                refine W.widen (k := 0) (n := 0) (Nat.le_of_ble_eq_true rfl) (Nat.le_of_ble_eq_true rfl) ?_
                have e9 := Option.some.inj hf
                subst e9
                exact W.lret hx hb hr (fun t ht hW => ⟨⟨_, (), rfl, rfl, by rw [ht]; exact hP, hD⟩, hS.F ht⟩) hS.2.2 dX5_buy_123
              · have hf := ie hf c20
                refine lv_lload hx hb dX5_buy_107 (lv_at hl 0 rfl) ?_
                refine lv_aload_n hx hb dX5_buy_109 rfl (lv_at hl 1 rfl) ?_
                refine va_get (D := D) (ci := 4) (v := .long mc) (C := RX5) (T := TX5) (N := 10) hx hb hts inX5_buy_X5 hown hK hP 0 rfl rfl 2 (by decide) (hts (.fieldLink RX5 20 "BondDeskModel" "cash" "J") (by decide +kernel)) (fun _ h9 => h9) rfl dX5_buy_110 ?_
                refine W.lcmp hx hb dX5_buy_113 ?_
                refine lv_if_le (tgt := 124) hx hb dX5_buy_114 (by decide) (fun c22 => ?_) (fun c22 => ?_)
                · have hf := it hf c22
                  refine lv_aload_n hx hb dX5_buy_124 rfl (lv_at hl 1 rfl) ?_
                  refine lv_dup hx hb dX5_buy_125 rfl ?_
                  refine va_get (D := D) (ci := 4) (v := .long mc) (C := RX5) (T := TX5) (N := 10) hx hb hts inX5_buy_X5 hown hK hP 0 rfl rfl 2 (by decide) (hts (.fieldLink RX5 20 "BondDeskModel" "cash" "J") (by decide +kernel)) (fun _ h9 => h9) rfl dX5_buy_126 ?_
                  refine lv_lload hx hb dX5_buy_129 (lv_at hl 0 rfl) ?_
                  refine lv_lsub hx hb dX5_buy_131 ?_
                  refine lv_topl (fun x23 ex23 => ?_)
                  have hf := bd_s hf ex23
                  refine va_put (D := D) (ci := 4) (v := .long x23) (ty := .long) (C := RX5) (T := TX5) (N := 10) hx hb hts inX5_buy_X5 tyX5 tyX5_ok nmX5 hown hK hP hD hS 0 rfl rfl 2 (by decide) (hts (.fieldLink RX5 20 "BondDeskModel" "cash" "J") (by decide +kernel)) (fun _ h9 => h9) rfl (by decide +kernel) rfl rfl (Nat.le_of_ble_eq_true rfl) dX5_buy_132 (fun H locs hP hD hS => ?_)
                  have hP : va_P D vwCl [eM hm mh mo my mp (va_up M 0 (0 : Int32)) x23, eH cI mh mhol, eO cI mo mof, eY cI my mdy, eP cJ mp mpd] H := hP
                  have hD : va_D A [eM hm mh mo my mp (va_up M 0 (0 : Int32)) x23, eH cI mh mhol, eO cI mo mof, eY cI my mdy, eP cJ mp mpd] := hD
                  refine lv_aload_n hx hb dX5_buy_135 rfl (lv_at hl 1 rfl) ?_
                  refine va_get (D := D) (ci := 4) (v := .ref mo) (C := RX5) (T := TX5) (N := 10) hx hb hts inX5_buy_X5 hown hK hP 0 rfl rfl 7 (by decide) (hts (.fieldLink RX5 31 "BondDeskModel" "of" "[I") (by decide +kernel)) (fun _ h9 => h9) rfl dX5_buy_136 ?_
                  refine lv_bipush (v := 14) hx hb dX5_buy_139 (by decide) ?_
                  refine lv_iload_n hx hb dX5_buy_141 rfl (lv_at hl 2 rfl) ?_
                  refine lv_imul hx hb dX5_buy_142 ?_
                  refine lv_bipush (v := 9) hx hb dX5_buy_143 (by decide) ?_
                  refine lv_iadd hx hb dX5_buy_145 ?_
                  refine lv_topi (fun x24 ex24 => ?_)
                  have hf := bd_s hf ex24
                  refine lv_dup2_11 hx hb dX5_buy_146 rfl rfl ?_
                  obtain ⟨c25, hf⟩ := gd_s hf
                  refine va_iald hx hb hK hP 2 0 rfl rfl c25 dX5_buy_147 ?_
                  refine lv_iload_n hx hb dX5_buy_148 rfl (lv_at hl 3 rfl) ?_
                  refine lv_iadd hx hb dX5_buy_149 ?_
                  refine lv_topi (fun x26 ex26 => ?_)
                  have hf := bd_s hf ex26
                  obtain ⟨c27, hf⟩ := gd_s hf
                  refine va_iast hx hb hK hP hD hS 2 0 rfl rfl c27 dX5_buy_150 (fun H locs hP hD hS => ?_)
                  obtain ⟨w28, ew28⟩ : ∃ z, z = upd mof x24.toNatClampNeg x26 := ⟨_, rfl⟩
                  have hf := bd_s hf ew28
                  rw [← ew28] at hP hD
                  have hP : va_P D vwCl [eM hm mh mo my mp (va_up M 0 (0 : Int32)) x23, eH cI mh mhol, eO cI mo w28, eY cI my mdy, eP cJ mp mpd] H := hP
                  have hD : va_D A [eM hm mh mo my mp (va_up M 0 (0 : Int32)) x23, eH cI mh mhol, eO cI mo w28, eY cI my mdy, eP cJ mp mpd] := hD
                  refine lv_lload hx hb dX5_buy_151 (lv_at hl 0 rfl) ?_
                  refine W.widen (k := 0) (n := 0) (Nat.le_of_ble_eq_true rfl) (Nat.le_of_ble_eq_true rfl) ?_
                  have e9 := Option.some.inj hf
                  subst e9
                  exact W.lret hx hb hr (fun t ht hW => ⟨⟨_, (), rfl, rfl, by rw [ht]; exact hP, hD⟩, hS.F ht⟩) hS.2.2 dX5_buy_153
                · have hf := ie hf c22
                  refine lv_aload_n hx hb dX5_buy_117 rfl (lv_at hl 1 rfl) ?_
                  refine lv_iconst (v := 3) hx hb dX5_buy_118 (by decide) ?_
                  obtain ⟨v29, hv29, hf⟩ := ob hf
                  have hPc := hP.sub (ws' := [eM hm mh mo my mp (va_up M 0 (0 : Int32)) mc, eH cI mh mhol, eO cI mo mof, eY cI my mdy, eP cJ mp mpd]) [0, 1, 2, 3, 4] rfl
                  have hDc := hD.sub (ws' := [eM hm mh mo my mp (va_up M 0 (0 : Int32)) mc, eH cI mh mhol, eO cI mo mof, eY cI my mdy, eP cJ mp mpd]) [0, 1, 2, 3, 4] (by decide) rfl
                  have hFc := va_free (wc := [eM hm mh mo my mp (va_up M 0 (0 : Int32)) mc, eH cI mh mhol, eO cI mo mof, eY cI my mdy, eP cJ mp mpd]) hD hS hA [0, 1, 2, 3, 4] rfl
                  refine va_calli (va_runV (As := [.int 3]) (rest := []) ⟨hx, hb, hml, hown, hts⟩ (m_X5_no l D cI cJ cO hm mh mo my mp (va_up M 0 (0 : Int32)) mc mhol mof mdy mpd H.size 3 v29 hv29) (cwV 1 hts gX5_buy_X5_no rfl rfl rfl (by decide +kernel) ⟨(Nat.le_of_ble_eq_true rfl), (Nat.le_of_ble_eq_true rfl)⟩) ⟨mp_blind, va_recv hK hP (ci := 4) (q0 := 0) rfl rfl, fun U hU hW => ⟨rfl, mp_at hZ hS hPc hK hDc hFc hU hW (Or.inr rfl)⟩⟩ rfl rfl hl.1 rfl (lv_room (Nat.le_of_ble_eq_true rfl)) dX5_buy_119 ⟨(Nat.le_of_ble_eq_true rfl), (Nat.le_of_ble_eq_true rfl)⟩) hS (fun q _ h => hFc q h) hFc (fun rv29 u t H1 locs ht9 hvm hw hBx hz1 hk1 hS => ?_)
                  subst hw
                  obtain ⟨hP1, hD1⟩ := hBx
                  rw [ht9] at hP1
                  obtain ⟨hP, hD⟩ := va_join (wr := []) (w1 := [eM hm mh mo my mp v29.2 mc, eH cI mh mhol, eO cI mo mof, eY cI my mdy, eP cJ mp mpd]) hP hD [0, 1, 2, 3, 4] [] rfl rfl (by decide) (by decide) hk1 hFc hP1 hD1
                  have hP := hP.sub (ws' := [eM hm mh mo my mp v29.2 mc, eH cI mh mhol, eO cI mo mof, eY cI my mdy, eP cJ mp mpd]) [0, 1, 2, 3, 4] rfl
                  have hD := hD.sub (ws' := [eM hm mh mo my mp v29.2 mc, eH cI mh mhol, eO cI mo mof, eY cI my mdy, eP cJ mp mpd]) [0, 1, 2, 3, 4] (by decide) rfl
                  generalize H1 = H at hP hS ⊢
                  refine lv_i2l hx hb dX5_buy_122 rfl ?_
                  refine W.widen (k := 0) (n := 0) (Nat.le_of_ble_eq_true rfl) (Nat.le_of_ble_eq_true rfl) ?_
                  have e9 := Option.some.inj hf
                  subst e9
                  exact W.lret hx hb hr (fun t ht hW => ⟨⟨_, (), rfl, rfl, by rw [ht]; exact hP, hD⟩, hS.F ht⟩) hS.2.2 dX5_buy_123
      · have hf := it hf c7
        refine lv_aload_n hx hb dX5_buy_42 rfl (lv_at hl 0 rfl) ?_
        refine lv_iconst (v := 2) hx hb dX5_buy_43 (by decide) ?_
        obtain ⟨v30, hv30, hf⟩ := ob hf
        have hPc := hP.sub (ws' := [eM hm mh mo my mp (va_up M 0 (0 : Int32)) mc, eH cI mh mhol, eO cI mo mof, eY cI my mdy, eP cJ mp mpd]) [0, 1, 2, 3, 4] rfl
        have hDc := hD.sub (ws' := [eM hm mh mo my mp (va_up M 0 (0 : Int32)) mc, eH cI mh mhol, eO cI mo mof, eY cI my mdy, eP cJ mp mpd]) [0, 1, 2, 3, 4] (by decide) rfl
        have hFc := va_free (wc := [eM hm mh mo my mp (va_up M 0 (0 : Int32)) mc, eH cI mh mhol, eO cI mo mof, eY cI my mdy, eP cJ mp mpd]) hD hS hA [0, 1, 2, 3, 4] rfl
        refine va_calli (va_runV (As := [.int 2]) (rest := []) ⟨hx, hb, hml, hown, hts⟩ (m_X5_no l D cI cJ cO hm mh mo my mp (va_up M 0 (0 : Int32)) mc mhol mof mdy mpd H.size 2 v30 hv30) (cwV 1 hts gX5_buy_X5_no rfl rfl rfl (by decide +kernel) ⟨(Nat.le_of_ble_eq_true rfl), (Nat.le_of_ble_eq_true rfl)⟩) ⟨mp_blind, va_recv hK hP (ci := 4) (q0 := 0) rfl rfl, fun U hU hW => ⟨rfl, mp_at hZ hS hPc hK hDc hFc hU hW (Or.inr rfl)⟩⟩ rfl rfl hl.1 rfl (lv_room (Nat.le_of_ble_eq_true rfl)) dX5_buy_44 ⟨(Nat.le_of_ble_eq_true rfl), (Nat.le_of_ble_eq_true rfl)⟩) hS (fun q _ h => hFc q h) hFc (fun rv30 u t H1 locs ht9 hvm hw hBx hz1 hk1 hS => ?_)
        subst hw
        obtain ⟨hP1, hD1⟩ := hBx
        rw [ht9] at hP1
        obtain ⟨hP, hD⟩ := va_join (wr := []) (w1 := [eM hm mh mo my mp v30.2 mc, eH cI mh mhol, eO cI mo mof, eY cI my mdy, eP cJ mp mpd]) hP hD [0, 1, 2, 3, 4] [] rfl rfl (by decide) (by decide) hk1 hFc hP1 hD1
        have hP := hP.sub (ws' := [eM hm mh mo my mp v30.2 mc, eH cI mh mhol, eO cI mo mof, eY cI my mdy, eP cJ mp mpd]) [0, 1, 2, 3, 4] rfl
        have hD := hD.sub (ws' := [eM hm mh mo my mp v30.2 mc, eH cI mh mhol, eO cI mo mof, eY cI my mdy, eP cJ mp mpd]) [0, 1, 2, 3, 4] (by decide) rfl
        generalize H1 = H at hP hS ⊢
        refine lv_i2l hx hb dX5_buy_47 rfl ?_
        refine W.widen (k := 0) (n := 0) (Nat.le_of_ble_eq_true rfl) (Nat.le_of_ble_eq_true rfl) ?_
        have e9 := Option.some.inj hf
        subst e9
        exact W.lret hx hb hr (fun t ht hW => ⟨⟨_, (), rfl, rfl, by rw [ht]; exact hP, hD⟩, hS.F ht⟩) hS.2.2 dX5_buy_48
  · have hf := it hf c2
    refine lv_aload_n hx hb dX5_buy_13 rfl (lv_at hl 0 rfl) ?_
    refine lv_iconst (v := 1) hx hb dX5_buy_14 (by decide) ?_
    obtain ⟨v31, hv31, hf⟩ := ob hf
    have hPc := hP.sub (ws' := [eM hm mh mo my mp (va_up M 0 (0 : Int32)) mc, eH cI mh mhol, eO cI mo mof, eY cI my mdy, eP cJ mp mpd]) [0, 1, 2, 3, 4] rfl
    have hDc := hD.sub (ws' := [eM hm mh mo my mp (va_up M 0 (0 : Int32)) mc, eH cI mh mhol, eO cI mo mof, eY cI my mdy, eP cJ mp mpd]) [0, 1, 2, 3, 4] (by decide) rfl
    have hFc := va_free (wc := [eM hm mh mo my mp (va_up M 0 (0 : Int32)) mc, eH cI mh mhol, eO cI mo mof, eY cI my mdy, eP cJ mp mpd]) hD hS hA [0, 1, 2, 3, 4] rfl
    refine va_calli (va_runV (As := [.int 1]) (rest := []) ⟨hx, hb, hml, hown, hts⟩ (m_X5_no l D cI cJ cO hm mh mo my mp (va_up M 0 (0 : Int32)) mc mhol mof mdy mpd H.size 1 v31 hv31) (cwV 1 hts gX5_buy_X5_no rfl rfl rfl (by decide +kernel) ⟨(Nat.le_of_ble_eq_true rfl), (Nat.le_of_ble_eq_true rfl)⟩) ⟨mp_blind, va_recv hK hP (ci := 4) (q0 := 0) rfl rfl, fun U hU hW => ⟨rfl, mp_at hZ hS hPc hK hDc hFc hU hW (Or.inr rfl)⟩⟩ rfl rfl hl.1 rfl (lv_room (Nat.le_of_ble_eq_true rfl)) dX5_buy_15 ⟨(Nat.le_of_ble_eq_true rfl), (Nat.le_of_ble_eq_true rfl)⟩) hS (fun q _ h => hFc q h) hFc (fun rv31 u t H1 locs ht9 hvm hw hBx hz1 hk1 hS => ?_)
    subst hw
    obtain ⟨hP1, hD1⟩ := hBx
    rw [ht9] at hP1
    obtain ⟨hP, hD⟩ := va_join (wr := []) (w1 := [eM hm mh mo my mp v31.2 mc, eH cI mh mhol, eO cI mo mof, eY cI my mdy, eP cJ mp mpd]) hP hD [0, 1, 2, 3, 4] [] rfl rfl (by decide) (by decide) hk1 hFc hP1 hD1
    have hP := hP.sub (ws' := [eM hm mh mo my mp v31.2 mc, eH cI mh mhol, eO cI mo mof, eY cI my mdy, eP cJ mp mpd]) [0, 1, 2, 3, 4] rfl
    have hD := hD.sub (ws' := [eM hm mh mo my mp v31.2 mc, eH cI mh mhol, eO cI mo mof, eY cI my mdy, eP cJ mp mpd]) [0, 1, 2, 3, 4] (by decide) rfl
    generalize H1 = H at hP hS ⊢
    refine lv_i2l hx hb dX5_buy_18 rfl ?_
    refine W.widen (k := 0) (n := 0) (Nat.le_of_ble_eq_true rfl) (Nat.le_of_ble_eq_true rfl) ?_
    have e9 := Option.some.inj hf
    subst e9
    exact W.lret hx hb hr (fun t ht hW => ⟨⟨_, (), rfl, rfl, by rw [ht]; exact hP, hD⟩, hS.F ht⟩) hS.2.2 dX5_buy_19
theorem inX5_sell_X5 : ∀ w ∈ wsX50, w ∈ wsX5_sell := by decide +kernel
set_option maxHeartbeats 4000000 in
set_option maxRecDepth 100000 in
theorem m_X5_sell (l : Launch) (D : va_G) (cI cJ cO : ClassId) (hm : Nat) (mh : Nat) (mo : Nat) (my : Nat) (mp : Nat) (M : Nat → Int32) (mc : Int64) (mhol : Nat → Int32) (mof : Nat → Int32) (mdy : Nat → Int32) (mpd : Nat → Int64) (sz : Nat) (a0 : Int32) (a1 : Int32) (a2 : Int32) (N : Nat) (r : Int64 × (Nat → Int32) × Int64 × (Nat → Int32)) (hf : f_X5_sell N M mc mhol mof mdy a0 a1 a2 = some r) : Met l yX5_sell wsX5_sell ({ frames := 5, cells := 0, slots := 0, locals := 116 }) (va_Pc [.ref hm, .int a0, .int a1, .int a2] (mP D (ty3 cI cJ cO) none [eM hm mh mo my mp M mc, eH cI mh mhol, eO cI mo mof, eY cI my mdy, eP cJ mp mpd] sz)) (mQl D (va_A [eM hm mh mo my mp M mc, eH cI mh mhol, eO cI mo mof, eY cI my mdy, eP cJ mp mpd] sz) r.1 [eM hm mh mo my mp r.2.1 r.2.2.1, eH cI mh mhol, eO cI mo r.2.2.2, eY cI my mdy, eP cJ mp mpd]) 0 0 (va_A [eM hm mh mo my mp M mc, eH cI mh mhol, eO cI mo mof, eY cI my mdy, eP cJ mp mpd] sz) := by
  refine Met.ofW (cc := cX5_sell) (maxL := 6) (ret := (some .long)) (by decide) rfl ?_
  intro p e s m args below meth c s₁ Bd hml hv
  obtain ⟨rfl, hsz, hZ, hP, hK, hD0⟩ := hv
  have hx := Bd.exec
  have hb := Bd.bytes
  have hr := Bd.returns
  have hts := atoms_spec (ws := wsX5_sell) Bd.pre
  have hown : s.vm.findClass RX5 = some m.cls := findClass_of_methodNamed Bd.named
  have hlocks := Bd.notSynchronized
  subst hsz
  have hD := hD0.self (sz := s.heap.size)
  generalize hAe : va_A [eM hm mh mo my mp M mc, eH cI mh mhol, eO cI mo mof, eY cI my mdy, eP cJ mp mpd] s.heap.size = A at hD hZ ⊢
  have hA : ∀ q : Nat, s.heap.size ≤ q → A q := fun q h => by rw [← hAe]; exact Or.inr h
  have hS : va_S A s.heap s.heap [] := va_S.rf
  have hl := lv_entry ([.ref hm, .int a0, .int a1, .int a2]) (n := 6) (Nat.le_of_ble_eq_true rfl)
  rw [lg_entry_eq]
  generalize (lg_sl ([.ref hm, .int a0, .int a1, .int a2]) ++ List.replicate (6 - (lg_sl ([.ref hm, .int a0, .int a1, .int a2])).length) Slot.unset).toArray = ls at hl ⊢
  have hl : lv_has ls 6 [(0, .ref hm), (1, .int a0), (2, .int a1), (3, .int a2)] := hl
  unfold f_X5_sell at hf
  refine lv_aload_n hx hb dX5_sell_0 rfl (lv_at hl 0 rfl) ?_
  refine lv_iconst (v := 0) hx hb dX5_sell_1 (by decide) ?_
  refine va_put (D := D) (ci := 4) (v := .int 0) (ty := .int) (C := RX5) (T := TX5) (N := 10) hx hb hts inX5_sell_X5 tyX5 tyX5_ok nmX5 hown hK hP hD hS 0 rfl rfl 0 (by decide) (hts (.fieldLink RX5 41 "BondDeskModel" "thrown" "I") (by decide +kernel)) (fun _ h9 => h9) rfl (by decide +kernel) rfl rfl (Nat.le_of_ble_eq_true rfl) dX5_sell_2 (fun H locs hP hD hS => ?_)
  have hP : va_P D vwCl [eM hm mh mo my mp (va_up M 0 (0 : Int32)) mc, eH cI mh mhol, eO cI mo mof, eY cI my mdy, eP cJ mp mpd] H := hP
  have hD : va_D A [eM hm mh mo my mp (va_up M 0 (0 : Int32)) mc, eH cI mh mhol, eO cI mo mof, eY cI my mdy, eP cJ mp mpd] := hD
  refine lv_aload_n hx hb dX5_sell_5 rfl (lv_at hl 0 rfl) ?_
  refine lv_iload_n hx hb dX5_sell_6 rfl (lv_at hl 1 rfl) ?_
  obtain ⟨v1, hv1, hf⟩ := ob hf
  refine cSz (W.runV (As := [.int a0]) (rest := []) ⟨hx, hb, hml, hown, hts⟩ (m_X5_isBond l D cI cJ cO hm mh mo my mp (va_up M 0 (0 : Int32)) mc mhol mof mdy mpd a0 v1 hv1) (cwV 1 hts gX5_sell_X5_isBond rfl rfl rfl (by decide +kernel) ⟨(Nat.le_of_ble_eq_true rfl), (Nat.le_of_ble_eq_true rfl)⟩) ⟨pw_blind, va_recv hK hP (ci := 4) (q0 := 0) rfl rfl, fun U hU hW => ⟨rfl, pw_at hZ hS hP hK hU hW (Or.inr rfl) [0, 1, 2, 3, 4] rfl⟩⟩ rfl rfl hl.1 rfl (lv_room (Nat.le_of_ble_eq_true rfl)) dX5_sell_7 ⟨(Nat.le_of_ble_eq_true rfl), (Nat.le_of_ble_eq_true rfl)⟩) (fun zv1 => ?_)
  refine lv_if_ne (tgt := 20) hx hb dX5_sell_10 (by decide) (fun c2 => ?_) (fun c2 => ?_)
  · have hf := ie hf c2
    refine lv_iload_n hx hb dX5_sell_20 rfl (lv_at hl 2 rfl) ?_
    refine lv_iconst (v := 1) hx hb dX5_sell_21 (by decide) ?_
    refine lv_sipush (v := 1000) hx hb dX5_sell_22 (by decide) ?_
    obtain ⟨v3, hv3, hf⟩ := ob hf
    refine cSz (W.runS (As := [.int a1, .int 1, .int 1000]) (rest := []) ⟨hx, hb, hml, hown, hts⟩ (m_X5_isIn l D cI cJ cO a1 1 1000 v3 hv3) (va_cwS 3 hts gX5_sell_X5_isIn rfl rfl rfl (by decide +kernel) ⟨(Nat.le_of_ble_eq_true rfl), (Nat.le_of_ble_eq_true rfl)⟩) ⟨pw_blind, fun U hU hW => ⟨rfl, pw_at hZ hS hP hK hU hW (Or.inr rfl) [] rfl⟩⟩ rfl rfl hl.1 rfl (lv_room (Nat.le_of_ble_eq_true rfl)) dX5_sell_25 ⟨(Nat.le_of_ble_eq_true rfl), (Nat.le_of_ble_eq_true rfl)⟩) (fun zv3 => ?_)
    refine lv_if_eq (tgt := 42) hx hb dX5_sell_28 (by decide) (fun c4 => ?_) (fun c4 => ?_)
    · have hf := it hf c4
      refine lv_aload_n hx hb dX5_sell_42 rfl (lv_at hl 0 rfl) ?_
      refine lv_iconst (v := 2) hx hb dX5_sell_43 (by decide) ?_
      obtain ⟨v5, hv5, hf⟩ := ob hf
      have hPc := hP.sub (ws' := [eM hm mh mo my mp (va_up M 0 (0 : Int32)) mc, eH cI mh mhol, eO cI mo mof, eY cI my mdy, eP cJ mp mpd]) [0, 1, 2, 3, 4] rfl
      have hDc := hD.sub (ws' := [eM hm mh mo my mp (va_up M 0 (0 : Int32)) mc, eH cI mh mhol, eO cI mo mof, eY cI my mdy, eP cJ mp mpd]) [0, 1, 2, 3, 4] (by decide) rfl
      have hFc := va_free (wc := [eM hm mh mo my mp (va_up M 0 (0 : Int32)) mc, eH cI mh mhol, eO cI mo mof, eY cI my mdy, eP cJ mp mpd]) hD hS hA [0, 1, 2, 3, 4] rfl
      refine va_calli (va_runV (As := [.int 2]) (rest := []) ⟨hx, hb, hml, hown, hts⟩ (m_X5_no l D cI cJ cO hm mh mo my mp (va_up M 0 (0 : Int32)) mc mhol mof mdy mpd H.size 2 v5 hv5) (cwV 1 hts gX5_sell_X5_no rfl rfl rfl (by decide +kernel) ⟨(Nat.le_of_ble_eq_true rfl), (Nat.le_of_ble_eq_true rfl)⟩) ⟨mp_blind, va_recv hK hP (ci := 4) (q0 := 0) rfl rfl, fun U hU hW => ⟨rfl, mp_at hZ hS hPc hK hDc hFc hU hW (Or.inr rfl)⟩⟩ rfl rfl hl.1 rfl (lv_room (Nat.le_of_ble_eq_true rfl)) dX5_sell_44 ⟨(Nat.le_of_ble_eq_true rfl), (Nat.le_of_ble_eq_true rfl)⟩) hS (fun q _ h => hFc q h) hFc (fun rv5 u t H1 locs ht9 hvm hw hBx hz1 hk1 hS => ?_)
      subst hw
      obtain ⟨hP1, hD1⟩ := hBx
      rw [ht9] at hP1
      obtain ⟨hP, hD⟩ := va_join (wr := []) (w1 := [eM hm mh mo my mp v5.2 mc, eH cI mh mhol, eO cI mo mof, eY cI my mdy, eP cJ mp mpd]) hP hD [0, 1, 2, 3, 4] [] rfl rfl (by decide) (by decide) hk1 hFc hP1 hD1
      have hP := hP.sub (ws' := [eM hm mh mo my mp v5.2 mc, eH cI mh mhol, eO cI mo mof, eY cI my mdy, eP cJ mp mpd]) [0, 1, 2, 3, 4] rfl
      have hD := hD.sub (ws' := [eM hm mh mo my mp v5.2 mc, eH cI mh mhol, eO cI mo mof, eY cI my mdy, eP cJ mp mpd]) [0, 1, 2, 3, 4] (by decide) rfl
      generalize H1 = H at hP hS ⊢
      refine lv_i2l hx hb dX5_sell_47 rfl ?_
      refine W.widen (k := 0) (n := 0) (Nat.le_of_ble_eq_true rfl) (Nat.le_of_ble_eq_true rfl) ?_
      have e9 := Option.some.inj hf
      subst e9
      exact W.lret hx hb hr (fun t ht hW => ⟨⟨_, (), rfl, rfl, by rw [ht]; exact hP, hD⟩, hS.F ht⟩) hS.2.2 dX5_sell_48
    · have hf := ie hf c4
      refine lv_iload_n hx hb dX5_sell_31 rfl (lv_at hl 3 rfl) ?_
      refine lv_iconst (v := 1) hx hb dX5_sell_32 (by decide) ?_
      refine lv_sipush (v := 30000) hx hb dX5_sell_33 (by decide) ?_
      obtain ⟨v6, hv6, hf⟩ := ob hf
      refine cSz (W.runS (As := [.int a2, .int 1, .int 30000]) (rest := []) ⟨hx, hb, hml, hown, hts⟩ (m_X5_isIn l D cI cJ cO a2 1 30000 v6 hv6) (va_cwS 3 hts gX5_sell_X5_isIn rfl rfl rfl (by decide +kernel) ⟨(Nat.le_of_ble_eq_true rfl), (Nat.le_of_ble_eq_true rfl)⟩) ⟨pw_blind, fun U hU hW => ⟨rfl, pw_at hZ hS hP hK hU hW (Or.inr rfl) [] rfl⟩⟩ rfl rfl hl.1 rfl (lv_room (Nat.le_of_ble_eq_true rfl)) dX5_sell_36 ⟨(Nat.le_of_ble_eq_true rfl), (Nat.le_of_ble_eq_true rfl)⟩) (fun zv6 => ?_)
      refine lv_if_ne (tgt := 49) hx hb dX5_sell_39 (by decide) (fun c7 => ?_) (fun c7 => ?_)
      · have hf := ie hf c7
        refine lv_aload_n hx hb dX5_sell_49 rfl (lv_at hl 0 rfl) ?_
        refine lv_aload_n hx hb dX5_sell_50 rfl (lv_at hl 0 rfl) ?_
        refine va_get (D := D) (ci := 4) (v := .int (M 1)) (C := RX5) (T := TX5) (N := 10) hx hb hts inX5_sell_X5 hown hK hP 0 rfl rfl 1 (by decide) (hts (.fieldLink RX5 14 "BondDeskModel" "today" "I") (by decide +kernel)) (fun _ h9 => h9) rfl dX5_sell_51 ?_
        obtain ⟨v8, hv8, hf⟩ := ob hf
        refine cSz (W.runV (As := [.int (M 1)]) (rest := []) ⟨hx, hb, hml, hown, hts⟩ (m_X5_isWorking l D cI cJ cO hm mh mo my mp (va_up M 0 (0 : Int32)) mc mhol mof mdy mpd (M 1) N v8 hv8) (cwV 1 hts gX5_sell_X5_isWorking rfl rfl rfl (by decide +kernel) ⟨(Nat.le_of_ble_eq_true rfl), (Nat.le_of_ble_eq_true rfl)⟩) ⟨pw_blind, va_recv hK hP (ci := 4) (q0 := 0) rfl rfl, fun U hU hW => ⟨rfl, pw_at hZ hS hP hK hU hW (Or.inr rfl) [0, 1, 2, 3, 4] rfl⟩⟩ rfl rfl hl.1 rfl (lv_room (Nat.le_of_ble_eq_true rfl)) dX5_sell_54 ⟨(Nat.le_of_ble_eq_true rfl), (Nat.le_of_ble_eq_true rfl)⟩) (fun zv8 => ?_)
        refine lv_if_eq (tgt := 71) hx hb dX5_sell_57 (by decide) (fun c9 => ?_) (fun c9 => ?_)
        · have hf := it hf c9
          refine lv_aload_n hx hb dX5_sell_71 rfl (lv_at hl 0 rfl) ?_
          refine lv_iconst (v := 3) hx hb dX5_sell_72 (by decide) ?_
          obtain ⟨v10, hv10, hf⟩ := ob hf
          have hPc := hP.sub (ws' := [eM hm mh mo my mp (va_up M 0 (0 : Int32)) mc, eH cI mh mhol, eO cI mo mof, eY cI my mdy, eP cJ mp mpd]) [0, 1, 2, 3, 4] rfl
          have hDc := hD.sub (ws' := [eM hm mh mo my mp (va_up M 0 (0 : Int32)) mc, eH cI mh mhol, eO cI mo mof, eY cI my mdy, eP cJ mp mpd]) [0, 1, 2, 3, 4] (by decide) rfl
          have hFc := va_free (wc := [eM hm mh mo my mp (va_up M 0 (0 : Int32)) mc, eH cI mh mhol, eO cI mo mof, eY cI my mdy, eP cJ mp mpd]) hD hS hA [0, 1, 2, 3, 4] rfl
          refine va_calli (va_runV (As := [.int 3]) (rest := []) ⟨hx, hb, hml, hown, hts⟩ (m_X5_no l D cI cJ cO hm mh mo my mp (va_up M 0 (0 : Int32)) mc mhol mof mdy mpd H.size 3 v10 hv10) (cwV 1 hts gX5_sell_X5_no rfl rfl rfl (by decide +kernel) ⟨(Nat.le_of_ble_eq_true rfl), (Nat.le_of_ble_eq_true rfl)⟩) ⟨mp_blind, va_recv hK hP (ci := 4) (q0 := 0) rfl rfl, fun U hU hW => ⟨rfl, mp_at hZ hS hPc hK hDc hFc hU hW (Or.inr rfl)⟩⟩ rfl rfl hl.1 rfl (lv_room (Nat.le_of_ble_eq_true rfl)) dX5_sell_73 ⟨(Nat.le_of_ble_eq_true rfl), (Nat.le_of_ble_eq_true rfl)⟩) hS (fun q _ h => hFc q h) hFc (fun rv10 u t H1 locs ht9 hvm hw hBx hz1 hk1 hS => ?_)
          subst hw
          obtain ⟨hP1, hD1⟩ := hBx
          rw [ht9] at hP1
          obtain ⟨hP, hD⟩ := va_join (wr := []) (w1 := [eM hm mh mo my mp v10.2 mc, eH cI mh mhol, eO cI mo mof, eY cI my mdy, eP cJ mp mpd]) hP hD [0, 1, 2, 3, 4] [] rfl rfl (by decide) (by decide) hk1 hFc hP1 hD1
          have hP := hP.sub (ws' := [eM hm mh mo my mp v10.2 mc, eH cI mh mhol, eO cI mo mof, eY cI my mdy, eP cJ mp mpd]) [0, 1, 2, 3, 4] rfl
          have hD := hD.sub (ws' := [eM hm mh mo my mp v10.2 mc, eH cI mh mhol, eO cI mo mof, eY cI my mdy, eP cJ mp mpd]) [0, 1, 2, 3, 4] (by decide) rfl
          generalize H1 = H at hP hS ⊢
          refine lv_i2l hx hb dX5_sell_76 rfl ?_
          refine W.widen (k := 0) (n := 0) (Nat.le_of_ble_eq_true rfl) (Nat.le_of_ble_eq_true rfl) ?_
          have e9 := Option.some.inj hf
          subst e9
          exact W.lret hx hb hr (fun t ht hW => ⟨⟨_, (), rfl, rfl, by rw [ht]; exact hP, hD⟩, hS.F ht⟩) hS.2.2 dX5_sell_77
        · have hf := ie hf c9
          refine lv_aload_n hx hb dX5_sell_60 rfl (lv_at hl 0 rfl) ?_
          refine lv_iload_n hx hb dX5_sell_61 rfl (lv_at hl 1 rfl) ?_
          refine lv_bipush (v := 9) hx hb dX5_sell_62 (by decide) ?_
          obtain ⟨v11, hv11, hf⟩ := ob hf
          refine cSi (W.runV (As := [.int a0, .int 9]) (rest := []) ⟨hx, hb, hml, hown, hts⟩ (m_X5_own l D cI cJ cO hm mh mo my mp (va_up M 0 (0 : Int32)) mc mhol mof mdy mpd a0 9 v11 hv11) (cwV 2 hts gX5_sell_X5_own rfl rfl rfl (by decide +kernel) ⟨(Nat.le_of_ble_eq_true rfl), (Nat.le_of_ble_eq_true rfl)⟩) ⟨pw_blind, va_recv hK hP (ci := 4) (q0 := 0) rfl rfl, fun U hU hW => ⟨rfl, pw_at hZ hS hP hK hU hW (Or.inr rfl) [0, 1, 2, 3, 4] rfl⟩⟩ rfl rfl hl.1 rfl (lv_room (Nat.le_of_ble_eq_true rfl)) dX5_sell_64 ⟨(Nat.le_of_ble_eq_true rfl), (Nat.le_of_ble_eq_true rfl)⟩) ?_
          refine lv_iload_n hx hb dX5_sell_67 rfl (lv_at hl 2 rfl) ?_
          refine lv_icmp_ge (tgt := 78) hx hb dX5_sell_68 (by decide) (fun c12 => ?_) (fun c12 => ?_)
          · have hf := it hf c12
            refine lv_iload_n hx hb dX5_sell_78 rfl (lv_at hl 2 rfl) ?_
            refine lv_i2l hx hb dX5_sell_79 rfl ?_
            refine lv_aload_n hx hb dX5_sell_80 rfl (lv_at hl 0 rfl) ?_
            refine lv_iload_n hx hb dX5_sell_81 rfl (lv_at hl 1 rfl) ?_
            refine lv_iload_n hx hb dX5_sell_82 rfl (lv_at hl 3 rfl) ?_
            obtain ⟨v13, hv13, hf⟩ := ob hf
            refine cSl (W.runV (As := [.int a0, .int a2]) (rest := [.long a1.toInt64]) ⟨hx, hb, hml, hown, hts⟩ (m_X5_fullPrice l D cI cJ cO hm mh mo my mp (va_up M 0 (0 : Int32)) mc mhol mof mdy mpd a0 a2 N v13 hv13) (cwV 2 hts gX5_sell_X5_fullPrice rfl rfl rfl (by decide +kernel) ⟨(Nat.le_of_ble_eq_true rfl), (Nat.le_of_ble_eq_true rfl)⟩) ⟨pw_blind, va_recv hK hP (ci := 4) (q0 := 0) rfl rfl, fun U hU hW => ⟨rfl, pw_at hZ hS hP hK hU hW (Or.inr rfl) [0, 1, 2, 3, 4] rfl⟩⟩ rfl rfl hl.1 rfl (lv_room (Nat.le_of_ble_eq_true rfl)) dX5_sell_83 ⟨(Nat.le_of_ble_eq_true rfl), (Nat.le_of_ble_eq_true rfl)⟩) ?_
            refine lv_lmul hx hb dX5_sell_86 ?_
            refine lv_topl (fun x14 ex14 => ?_)
            have hf := bd_s hf ex14
            refine lv_lstore (lv' := [(4, .long x14), (0, .ref hm), (1, .int a0), (2, .int a1), (3, .int a2)]) hx hb dX5_sell_87 hl (by decide) rfl (fun ls hl => ?_)
            refine lv_aload_n hx hb dX5_sell_89 rfl (lv_at hl 1 rfl) ?_
            refine lv_dup hx hb dX5_sell_90 rfl ?_
            refine va_get (D := D) (ci := 4) (v := .long mc) (C := RX5) (T := TX5) (N := 10) hx hb hts inX5_sell_X5 hown hK hP 0 rfl rfl 2 (by decide) (hts (.fieldLink RX5 20 "BondDeskModel" "cash" "J") (by decide +kernel)) (fun _ h9 => h9) rfl dX5_sell_91 ?_
            refine lv_lload hx hb dX5_sell_94 (lv_at hl 0 rfl) ?_
            refine lv_ladd hx hb dX5_sell_96 ?_
            refine lv_topl (fun x15 ex15 => ?_)
            have hf := bd_s hf ex15
            refine va_put (D := D) (ci := 4) (v := .long x15) (ty := .long) (C := RX5) (T := TX5) (N := 10) hx hb hts inX5_sell_X5 tyX5 tyX5_ok nmX5 hown hK hP hD hS 0 rfl rfl 2 (by decide) (hts (.fieldLink RX5 20 "BondDeskModel" "cash" "J") (by decide +kernel)) (fun _ h9 => h9) rfl (by decide +kernel) rfl rfl (Nat.le_of_ble_eq_true rfl) dX5_sell_97 (fun H locs hP hD hS => ?_)
            have hP : va_P D vwCl [eM hm mh mo my mp (va_up M 0 (0 : Int32)) x15, eH cI mh mhol, eO cI mo mof, eY cI my mdy, eP cJ mp mpd] H := hP
            have hD : va_D A [eM hm mh mo my mp (va_up M 0 (0 : Int32)) x15, eH cI mh mhol, eO cI mo mof, eY cI my mdy, eP cJ mp mpd] := hD
            refine lv_aload_n hx hb dX5_sell_100 rfl (lv_at hl 1 rfl) ?_
            refine va_get (D := D) (ci := 4) (v := .ref mo) (C := RX5) (T := TX5) (N := 10) hx hb hts inX5_sell_X5 hown hK hP 0 rfl rfl 7 (by decide) (hts (.fieldLink RX5 31 "BondDeskModel" "of" "[I") (by decide +kernel)) (fun _ h9 => h9) rfl dX5_sell_101 ?_
            refine lv_bipush (v := 14) hx hb dX5_sell_104 (by decide) ?_
            refine lv_iload_n hx hb dX5_sell_106 rfl (lv_at hl 2 rfl) ?_
            refine lv_imul hx hb dX5_sell_107 ?_
            refine lv_bipush (v := 9) hx hb dX5_sell_108 (by decide) ?_
            refine lv_iadd hx hb dX5_sell_110 ?_
            refine lv_topi (fun x16 ex16 => ?_)
            have hf := bd_s hf ex16
            refine lv_dup2_11 hx hb dX5_sell_111 rfl rfl ?_
            obtain ⟨c17, hf⟩ := gd_s hf
            refine va_iald hx hb hK hP 2 0 rfl rfl c17 dX5_sell_112 ?_
            refine lv_iload_n hx hb dX5_sell_113 rfl (lv_at hl 3 rfl) ?_
            refine lv_isub hx hb dX5_sell_114 ?_
            refine lv_topi (fun x18 ex18 => ?_)
            have hf := bd_s hf ex18
            obtain ⟨c19, hf⟩ := gd_s hf
            refine va_iast hx hb hK hP hD hS 2 0 rfl rfl c19 dX5_sell_115 (fun H locs hP hD hS => ?_)
            obtain ⟨w20, ew20⟩ : ∃ z, z = upd mof x16.toNatClampNeg x18 := ⟨_, rfl⟩
            have hf := bd_s hf ew20
            rw [← ew20] at hP hD
            have hP : va_P D vwCl [eM hm mh mo my mp (va_up M 0 (0 : Int32)) x15, eH cI mh mhol, eO cI mo w20, eY cI my mdy, eP cJ mp mpd] H := hP
            have hD : va_D A [eM hm mh mo my mp (va_up M 0 (0 : Int32)) x15, eH cI mh mhol, eO cI mo w20, eY cI my mdy, eP cJ mp mpd] := hD
            refine lv_lload hx hb dX5_sell_116 (lv_at hl 0 rfl) ?_
            refine W.widen (k := 0) (n := 0) (Nat.le_of_ble_eq_true rfl) (Nat.le_of_ble_eq_true rfl) ?_
            have e9 := Option.some.inj hf
            subst e9
            exact W.lret hx hb hr (fun t ht hW => ⟨⟨_, (), rfl, rfl, by rw [ht]; exact hP, hD⟩, hS.F ht⟩) hS.2.2 dX5_sell_118
          · have hf := ie hf c12
            refine lv_aload_n hx hb dX5_sell_71 rfl (lv_at hl 0 rfl) ?_
            refine lv_iconst (v := 3) hx hb dX5_sell_72 (by decide) ?_
            obtain ⟨v21, hv21, hf⟩ := ob hf
            have hPc := hP.sub (ws' := [eM hm mh mo my mp (va_up M 0 (0 : Int32)) mc, eH cI mh mhol, eO cI mo mof, eY cI my mdy, eP cJ mp mpd]) [0, 1, 2, 3, 4] rfl
            have hDc := hD.sub (ws' := [eM hm mh mo my mp (va_up M 0 (0 : Int32)) mc, eH cI mh mhol, eO cI mo mof, eY cI my mdy, eP cJ mp mpd]) [0, 1, 2, 3, 4] (by decide) rfl
            have hFc := va_free (wc := [eM hm mh mo my mp (va_up M 0 (0 : Int32)) mc, eH cI mh mhol, eO cI mo mof, eY cI my mdy, eP cJ mp mpd]) hD hS hA [0, 1, 2, 3, 4] rfl
            refine va_calli (va_runV (As := [.int 3]) (rest := []) ⟨hx, hb, hml, hown, hts⟩ (m_X5_no l D cI cJ cO hm mh mo my mp (va_up M 0 (0 : Int32)) mc mhol mof mdy mpd H.size 3 v21 hv21) (cwV 1 hts gX5_sell_X5_no rfl rfl rfl (by decide +kernel) ⟨(Nat.le_of_ble_eq_true rfl), (Nat.le_of_ble_eq_true rfl)⟩) ⟨mp_blind, va_recv hK hP (ci := 4) (q0 := 0) rfl rfl, fun U hU hW => ⟨rfl, mp_at hZ hS hPc hK hDc hFc hU hW (Or.inr rfl)⟩⟩ rfl rfl hl.1 rfl (lv_room (Nat.le_of_ble_eq_true rfl)) dX5_sell_73 ⟨(Nat.le_of_ble_eq_true rfl), (Nat.le_of_ble_eq_true rfl)⟩) hS (fun q _ h => hFc q h) hFc (fun rv21 u t H1 locs ht9 hvm hw hBx hz1 hk1 hS => ?_)
            subst hw
            obtain ⟨hP1, hD1⟩ := hBx
            rw [ht9] at hP1
            obtain ⟨hP, hD⟩ := va_join (wr := []) (w1 := [eM hm mh mo my mp v21.2 mc, eH cI mh mhol, eO cI mo mof, eY cI my mdy, eP cJ mp mpd]) hP hD [0, 1, 2, 3, 4] [] rfl rfl (by decide) (by decide) hk1 hFc hP1 hD1
            have hP := hP.sub (ws' := [eM hm mh mo my mp v21.2 mc, eH cI mh mhol, eO cI mo mof, eY cI my mdy, eP cJ mp mpd]) [0, 1, 2, 3, 4] rfl
            have hD := hD.sub (ws' := [eM hm mh mo my mp v21.2 mc, eH cI mh mhol, eO cI mo mof, eY cI my mdy, eP cJ mp mpd]) [0, 1, 2, 3, 4] (by decide) rfl
            generalize H1 = H at hP hS ⊢
            refine lv_i2l hx hb dX5_sell_76 rfl ?_
            refine W.widen (k := 0) (n := 0) (Nat.le_of_ble_eq_true rfl) (Nat.le_of_ble_eq_true rfl) ?_
            have e9 := Option.some.inj hf
            subst e9
            exact W.lret hx hb hr (fun t ht hW => ⟨⟨_, (), rfl, rfl, by rw [ht]; exact hP, hD⟩, hS.F ht⟩) hS.2.2 dX5_sell_77
      · have hf := it hf c7
        refine lv_aload_n hx hb dX5_sell_42 rfl (lv_at hl 0 rfl) ?_
        refine lv_iconst (v := 2) hx hb dX5_sell_43 (by decide) ?_
        obtain ⟨v22, hv22, hf⟩ := ob hf
        have hPc := hP.sub (ws' := [eM hm mh mo my mp (va_up M 0 (0 : Int32)) mc, eH cI mh mhol, eO cI mo mof, eY cI my mdy, eP cJ mp mpd]) [0, 1, 2, 3, 4] rfl
        have hDc := hD.sub (ws' := [eM hm mh mo my mp (va_up M 0 (0 : Int32)) mc, eH cI mh mhol, eO cI mo mof, eY cI my mdy, eP cJ mp mpd]) [0, 1, 2, 3, 4] (by decide) rfl
        have hFc := va_free (wc := [eM hm mh mo my mp (va_up M 0 (0 : Int32)) mc, eH cI mh mhol, eO cI mo mof, eY cI my mdy, eP cJ mp mpd]) hD hS hA [0, 1, 2, 3, 4] rfl
        refine va_calli (va_runV (As := [.int 2]) (rest := []) ⟨hx, hb, hml, hown, hts⟩ (m_X5_no l D cI cJ cO hm mh mo my mp (va_up M 0 (0 : Int32)) mc mhol mof mdy mpd H.size 2 v22 hv22) (cwV 1 hts gX5_sell_X5_no rfl rfl rfl (by decide +kernel) ⟨(Nat.le_of_ble_eq_true rfl), (Nat.le_of_ble_eq_true rfl)⟩) ⟨mp_blind, va_recv hK hP (ci := 4) (q0 := 0) rfl rfl, fun U hU hW => ⟨rfl, mp_at hZ hS hPc hK hDc hFc hU hW (Or.inr rfl)⟩⟩ rfl rfl hl.1 rfl (lv_room (Nat.le_of_ble_eq_true rfl)) dX5_sell_44 ⟨(Nat.le_of_ble_eq_true rfl), (Nat.le_of_ble_eq_true rfl)⟩) hS (fun q _ h => hFc q h) hFc (fun rv22 u t H1 locs ht9 hvm hw hBx hz1 hk1 hS => ?_)
        subst hw
        obtain ⟨hP1, hD1⟩ := hBx
        rw [ht9] at hP1
        obtain ⟨hP, hD⟩ := va_join (wr := []) (w1 := [eM hm mh mo my mp v22.2 mc, eH cI mh mhol, eO cI mo mof, eY cI my mdy, eP cJ mp mpd]) hP hD [0, 1, 2, 3, 4] [] rfl rfl (by decide) (by decide) hk1 hFc hP1 hD1
        have hP := hP.sub (ws' := [eM hm mh mo my mp v22.2 mc, eH cI mh mhol, eO cI mo mof, eY cI my mdy, eP cJ mp mpd]) [0, 1, 2, 3, 4] rfl
        have hD := hD.sub (ws' := [eM hm mh mo my mp v22.2 mc, eH cI mh mhol, eO cI mo mof, eY cI my mdy, eP cJ mp mpd]) [0, 1, 2, 3, 4] (by decide) rfl
        generalize H1 = H at hP hS ⊢
        refine lv_i2l hx hb dX5_sell_47 rfl ?_
        refine W.widen (k := 0) (n := 0) (Nat.le_of_ble_eq_true rfl) (Nat.le_of_ble_eq_true rfl) ?_
        have e9 := Option.some.inj hf
        subst e9
        exact W.lret hx hb hr (fun t ht hW => ⟨⟨_, (), rfl, rfl, by rw [ht]; exact hP, hD⟩, hS.F ht⟩) hS.2.2 dX5_sell_48
  · have hf := it hf c2
    refine lv_aload_n hx hb dX5_sell_13 rfl (lv_at hl 0 rfl) ?_
    refine lv_iconst (v := 1) hx hb dX5_sell_14 (by decide) ?_
    obtain ⟨v23, hv23, hf⟩ := ob hf
    have hPc := hP.sub (ws' := [eM hm mh mo my mp (va_up M 0 (0 : Int32)) mc, eH cI mh mhol, eO cI mo mof, eY cI my mdy, eP cJ mp mpd]) [0, 1, 2, 3, 4] rfl
    have hDc := hD.sub (ws' := [eM hm mh mo my mp (va_up M 0 (0 : Int32)) mc, eH cI mh mhol, eO cI mo mof, eY cI my mdy, eP cJ mp mpd]) [0, 1, 2, 3, 4] (by decide) rfl
    have hFc := va_free (wc := [eM hm mh mo my mp (va_up M 0 (0 : Int32)) mc, eH cI mh mhol, eO cI mo mof, eY cI my mdy, eP cJ mp mpd]) hD hS hA [0, 1, 2, 3, 4] rfl
    refine va_calli (va_runV (As := [.int 1]) (rest := []) ⟨hx, hb, hml, hown, hts⟩ (m_X5_no l D cI cJ cO hm mh mo my mp (va_up M 0 (0 : Int32)) mc mhol mof mdy mpd H.size 1 v23 hv23) (cwV 1 hts gX5_sell_X5_no rfl rfl rfl (by decide +kernel) ⟨(Nat.le_of_ble_eq_true rfl), (Nat.le_of_ble_eq_true rfl)⟩) ⟨mp_blind, va_recv hK hP (ci := 4) (q0 := 0) rfl rfl, fun U hU hW => ⟨rfl, mp_at hZ hS hPc hK hDc hFc hU hW (Or.inr rfl)⟩⟩ rfl rfl hl.1 rfl (lv_room (Nat.le_of_ble_eq_true rfl)) dX5_sell_15 ⟨(Nat.le_of_ble_eq_true rfl), (Nat.le_of_ble_eq_true rfl)⟩) hS (fun q _ h => hFc q h) hFc (fun rv23 u t H1 locs ht9 hvm hw hBx hz1 hk1 hS => ?_)
    subst hw
    obtain ⟨hP1, hD1⟩ := hBx
    rw [ht9] at hP1
    obtain ⟨hP, hD⟩ := va_join (wr := []) (w1 := [eM hm mh mo my mp v23.2 mc, eH cI mh mhol, eO cI mo mof, eY cI my mdy, eP cJ mp mpd]) hP hD [0, 1, 2, 3, 4] [] rfl rfl (by decide) (by decide) hk1 hFc hP1 hD1
    have hP := hP.sub (ws' := [eM hm mh mo my mp v23.2 mc, eH cI mh mhol, eO cI mo mof, eY cI my mdy, eP cJ mp mpd]) [0, 1, 2, 3, 4] rfl
    have hD := hD.sub (ws' := [eM hm mh mo my mp v23.2 mc, eH cI mh mhol, eO cI mo mof, eY cI my mdy, eP cJ mp mpd]) [0, 1, 2, 3, 4] (by decide) rfl
    generalize H1 = H at hP hS ⊢
    refine lv_i2l hx hb dX5_sell_18 rfl ?_
    refine W.widen (k := 0) (n := 0) (Nat.le_of_ble_eq_true rfl) (Nat.le_of_ble_eq_true rfl) ?_
    have e9 := Option.some.inj hf
    subst e9
    exact W.lret hx hb hr (fun t ht hW => ⟨⟨_, (), rfl, rfl, by rw [ht]; exact hP, hD⟩, hS.F ht⟩) hS.2.2 dX5_sell_19
theorem inX5_pay_X5 : ∀ w ∈ wsX50, w ∈ wsX5_pay := by decide +kernel
set_option maxHeartbeats 4000000 in
set_option maxRecDepth 100000 in
theorem m_X5_pay (l : Launch) (D : va_G) (cI cJ cO : ClassId) (hm : Nat) (mh : Nat) (mo : Nat) (my : Nat) (mp : Nat) (M : Nat → Int32) (mc : Int64) (mhol : Nat → Int32) (mof : Nat → Int32) (mdy : Nat → Int32) (mpd : Nat → Int64) (sz : Nat) (a0 : Int32) (a1 : Int32) (a2 : Int64) (r : Int64 × Int64 × (Nat → Int64)) (hf : f_X5_pay mc mof mpd a0 a1 a2 = some r) : Met l yX5_pay wsX5_pay ({ frames := 1, cells := 0, slots := 0, locals := 22 }) (va_Pc [.ref hm, .int a0, .int a1, .long a2] (mP D (ty3 cI cJ cO) none [eM hm mh mo my mp M mc, eH cI mh mhol, eO cI mo mof, eY cI my mdy, eP cJ mp mpd] sz)) (mQl D (va_A [eM hm mh mo my mp M mc, eH cI mh mhol, eO cI mo mof, eY cI my mdy, eP cJ mp mpd] sz) r.1 [eM hm mh mo my mp M r.2.1, eH cI mh mhol, eO cI mo mof, eY cI my mdy, eP cJ mp r.2.2]) 0 0 (va_A [eM hm mh mo my mp M mc, eH cI mh mhol, eO cI mo mof, eY cI my mdy, eP cJ mp mpd] sz) := by
  refine Met.ofW (cc := cX5_pay) (maxL := 7) (ret := (some .long)) (by decide) rfl ?_
  intro p e s m args below meth c s₁ Bd hml hv
  obtain ⟨rfl, hsz, hZ, hP, hK, hD0⟩ := hv
  have hx := Bd.exec
  have hb := Bd.bytes
  have hr := Bd.returns
  have hts := atoms_spec (ws := wsX5_pay) Bd.pre
  have hown : s.vm.findClass RX5 = some m.cls := findClass_of_methodNamed Bd.named
  have hlocks := Bd.notSynchronized
  subst hsz
  have hD := hD0.self (sz := s.heap.size)
  generalize hAe : va_A [eM hm mh mo my mp M mc, eH cI mh mhol, eO cI mo mof, eY cI my mdy, eP cJ mp mpd] s.heap.size = A at hD hZ ⊢
  have hA : ∀ q : Nat, s.heap.size ≤ q → A q := fun q h => by rw [← hAe]; exact Or.inr h
  have hS : va_S A s.heap s.heap [] := va_S.rf
  have hl := lv_entry ([.ref hm, .int a0, .int a1, .long a2]) (n := 7) (Nat.le_of_ble_eq_true rfl)
  rw [lg_entry_eq]
  generalize (lg_sl ([.ref hm, .int a0, .int a1, .long a2]) ++ List.replicate (7 - (lg_sl ([.ref hm, .int a0, .int a1, .long a2])).length) Slot.unset).toArray = ls at hl ⊢
  have hl : lv_has ls 7 [(0, .ref hm), (1, .int a0), (2, .int a1), (3, .long a2)] := hl
  unfold f_X5_pay at hf
  refine lv_lload_n hx hb dX5_pay_0 rfl (lv_at hl 3 rfl) ?_
  refine lv_aload_n hx hb dX5_pay_1 rfl (lv_at hl 0 rfl) ?_
  refine lv_iload_n hx hb dX5_pay_2 rfl (lv_at hl 1 rfl) ?_
  refine lv_bipush (v := 9) hx hb dX5_pay_3 (by decide) ?_
  obtain ⟨v1, hv1, hf⟩ := ob hf
  refine cSi (W.runV (As := [.int a0, .int 9]) (rest := [.long a2]) ⟨hx, hb, hml, hown, hts⟩ (m_X5_own l D cI cJ cO hm mh mo my mp M mc mhol mof mdy mpd a0 9 v1 hv1) (cwV 2 hts gX5_pay_X5_own rfl rfl rfl (by decide +kernel) ⟨(Nat.le_of_ble_eq_true rfl), (Nat.le_of_ble_eq_true rfl)⟩) ⟨pw_blind, va_recv hK hP (ci := 4) (q0 := 0) rfl rfl, fun U hU hW => ⟨rfl, pw_at hZ hS hP hK hU hW (Or.inr rfl) [0, 1, 2, 3, 4] rfl⟩⟩ rfl rfl hl.1 rfl (lv_room (Nat.le_of_ble_eq_true rfl)) dX5_pay_5 ⟨(Nat.le_of_ble_eq_true rfl), (Nat.le_of_ble_eq_true rfl)⟩) ?_
  refine lv_i2l hx hb dX5_pay_8 rfl ?_
  refine lv_lmul hx hb dX5_pay_9 ?_
  refine lv_topl (fun x2 ex2 => ?_)
  have hf := bd_s hf ex2
  refine lv_lstore (lv' := [(5, .long x2), (0, .ref hm), (1, .int a0), (2, .int a1), (3, .long a2)]) hx hb dX5_pay_10 hl (by decide) rfl (fun ls hl => ?_)
  refine lv_aload_n hx hb dX5_pay_12 rfl (lv_at hl 1 rfl) ?_
  refine va_get (D := D) (ci := 4) (v := .ref mp) (C := RX5) (T := TX5) (N := 10) hx hb hts inX5_pay_X5 hown hK hP 0 rfl rfl 9 (by decide) (hts (.fieldLink RX5 37 "BondDeskModel" "paid" "[J") (by decide +kernel)) (fun _ h9 => h9) rfl dX5_pay_13 ?_
  refine lv_iload_n hx hb dX5_pay_16 rfl (lv_at hl 3 rfl) ?_
  refine lv_dup2_11 hx hb dX5_pay_17 rfl rfl ?_
  obtain ⟨c3, hf⟩ := gd_s hf
  refine va_lald hx hb hK hP 4 1 rfl rfl c3 dX5_pay_18 ?_
  refine lv_lload hx hb dX5_pay_19 (lv_at hl 0 rfl) ?_
  refine lv_ladd hx hb dX5_pay_21 ?_
  refine lv_topl (fun x4 ex4 => ?_)
  have hf := bd_s hf ex4
  obtain ⟨c5, hf⟩ := gd_s hf
  refine va_last hx hb hK hP hD hS 4 1 rfl rfl c5 dX5_pay_22 (fun H locs hP hD hS => ?_)
  obtain ⟨w6, ew6⟩ : ∃ z, z = vp_updL mpd a1.toNatClampNeg x4 := ⟨_, rfl⟩
  have hf := bd_s hf ew6
  rw [← ew6] at hP hD
  have hP : va_P D vwCl [eM hm mh mo my mp M mc, eH cI mh mhol, eO cI mo mof, eY cI my mdy, eP cJ mp w6] H := hP
  have hD : va_D A [eM hm mh mo my mp M mc, eH cI mh mhol, eO cI mo mof, eY cI my mdy, eP cJ mp w6] := hD
  refine lv_aload_n hx hb dX5_pay_23 rfl (lv_at hl 1 rfl) ?_
  refine lv_dup hx hb dX5_pay_24 rfl ?_
  refine va_get (D := D) (ci := 4) (v := .long mc) (C := RX5) (T := TX5) (N := 10) hx hb hts inX5_pay_X5 hown hK hP 0 rfl rfl 2 (by decide) (hts (.fieldLink RX5 20 "BondDeskModel" "cash" "J") (by decide +kernel)) (fun _ h9 => h9) rfl dX5_pay_25 ?_
  refine lv_lload hx hb dX5_pay_28 (lv_at hl 0 rfl) ?_
  refine lv_ladd hx hb dX5_pay_30 ?_
  refine lv_topl (fun x7 ex7 => ?_)
  have hf := bd_s hf ex7
  refine va_put (D := D) (ci := 4) (v := .long x7) (ty := .long) (C := RX5) (T := TX5) (N := 10) hx hb hts inX5_pay_X5 tyX5 tyX5_ok nmX5 hown hK hP hD hS 0 rfl rfl 2 (by decide) (hts (.fieldLink RX5 20 "BondDeskModel" "cash" "J") (by decide +kernel)) (fun _ h9 => h9) rfl (by decide +kernel) rfl rfl (Nat.le_of_ble_eq_true rfl) dX5_pay_31 (fun H locs hP hD hS => ?_)
  have hP : va_P D vwCl [eM hm mh mo my mp M x7, eH cI mh mhol, eO cI mo mof, eY cI my mdy, eP cJ mp w6] H := hP
  have hD : va_D A [eM hm mh mo my mp M x7, eH cI mh mhol, eO cI mo mof, eY cI my mdy, eP cJ mp w6] := hD
  refine lv_lload hx hb dX5_pay_34 (lv_at hl 0 rfl) ?_
  refine W.widen (k := 0) (n := 0) (Nat.le_of_ble_eq_true rfl) (Nat.le_of_ble_eq_true rfl) ?_
  have e9 := Option.some.inj hf
  subst e9
  exact W.lret hx hb hr (fun t ht hW => ⟨⟨_, (), rfl, rfl, by rw [ht]; exact hP, hD⟩, hS.F ht⟩) hS.2.2 dX5_pay_36
theorem inX5_leave_X5 : ∀ w ∈ wsX50, w ∈ wsX5_leave := by decide +kernel
set_option maxHeartbeats 4000000 in
set_option maxRecDepth 100000 in
theorem m_X5_leave (l : Launch) (D : va_G) (cI cJ cO : ClassId) (hm : Nat) (mh : Nat) (mo : Nat) (my : Nat) (mp : Nat) (M : Nat → Int32) (mc : Int64) (mhol : Nat → Int32) (mof : Nat → Int32) (mdy : Nat → Int32) (mpd : Nat → Int64) (sz : Nat) (a0 : Int32) (a1 : Int32) (r : (Nat → Int32)) (hf : f_X5_leave mof a0 a1 = some r) : Met l yX5_leave wsX5_leave ({ frames := 0, cells := 0, slots := 0, locals := 0 }) (va_Pc [.ref hm, .int a0, .int a1] (mP D (ty3 cI cJ cO) none [eM hm mh mo my mp M mc, eH cI mh mhol, eO cI mo mof, eY cI my mdy, eP cJ mp mpd] sz)) (mQv D (va_A [eM hm mh mo my mp M mc, eH cI mh mhol, eO cI mo mof, eY cI my mdy, eP cJ mp mpd] sz) [eM hm mh mo my mp M mc, eH cI mh mhol, eO cI mo r, eY cI my mdy, eP cJ mp mpd]) 0 0 (va_A [eM hm mh mo my mp M mc, eH cI mh mhol, eO cI mo mof, eY cI my mdy, eP cJ mp mpd] sz) := by
  refine Met.ofW (cc := cX5_leave) (maxL := 3) (ret := none) (by decide) rfl ?_
  intro p e s m args below meth c s₁ Bd hml hv
  obtain ⟨rfl, hsz, hZ, hP, hK, hD0⟩ := hv
  have hx := Bd.exec
  have hb := Bd.bytes
  have hr := Bd.returns
  have hts := atoms_spec (ws := wsX5_leave) Bd.pre
  have hown : s.vm.findClass RX5 = some m.cls := findClass_of_methodNamed Bd.named
  have hlocks := Bd.notSynchronized
  subst hsz
  have hD := hD0.self (sz := s.heap.size)
  generalize hAe : va_A [eM hm mh mo my mp M mc, eH cI mh mhol, eO cI mo mof, eY cI my mdy, eP cJ mp mpd] s.heap.size = A at hD hZ ⊢
  have hA : ∀ q : Nat, s.heap.size ≤ q → A q := fun q h => by rw [← hAe]; exact Or.inr h
  have hS : va_S A s.heap s.heap [] := va_S.rf
  have hl := lv_entry ([.ref hm, .int a0, .int a1]) (n := 3) (Nat.le_of_ble_eq_true rfl)
  rw [lg_entry_eq]
  generalize (lg_sl ([.ref hm, .int a0, .int a1]) ++ List.replicate (3 - (lg_sl ([.ref hm, .int a0, .int a1])).length) Slot.unset).toArray = ls at hl ⊢
  have hl : lv_has ls 3 [(0, .ref hm), (1, .int a0), (2, .int a1)] := hl
  unfold f_X5_leave at hf
  refine lv_aload_n hx hb dX5_leave_0 rfl (lv_at hl 0 rfl) ?_
  refine va_get (D := D) (ci := 4) (v := .ref mo) (C := RX5) (T := TX5) (N := 10) hx hb hts inX5_leave_X5 hown hK hP 0 rfl rfl 7 (by decide) (hts (.fieldLink RX5 31 "BondDeskModel" "of" "[I") (by decide +kernel)) (fun _ h9 => h9) rfl dX5_leave_1 ?_
  refine lv_bipush (v := 14) hx hb dX5_leave_4 (by decide) ?_
  refine lv_iload_n hx hb dX5_leave_6 rfl (lv_at hl 1 rfl) ?_
  refine lv_imul hx hb dX5_leave_7 ?_
  refine lv_bipush (v := 8) hx hb dX5_leave_8 (by decide) ?_
  refine lv_iadd hx hb dX5_leave_10 ?_
  refine lv_iload_n hx hb dX5_leave_11 rfl (lv_at hl 2 rfl) ?_
  obtain ⟨c1, hf⟩ := gd_s hf
  refine va_iast hx hb hK hP hD hS 2 0 rfl rfl c1 dX5_leave_12 (fun H locs hP hD hS => ?_)
  obtain ⟨w2, ew2⟩ : ∃ z, z = upd mof ((14 * a0) + 8).toNatClampNeg a1 := ⟨_, rfl⟩
  have hf := bd_s hf ew2
  rw [← ew2] at hP hD
  have hP : va_P D vwCl [eM hm mh mo my mp M mc, eH cI mh mhol, eO cI mo w2, eY cI my mdy, eP cJ mp mpd] H := hP
  have hD : va_D A [eM hm mh mo my mp M mc, eH cI mh mhol, eO cI mo w2, eY cI my mdy, eP cJ mp mpd] := hD
  refine lv_aload_n hx hb dX5_leave_13 rfl (lv_at hl 0 rfl) ?_
  refine va_get (D := D) (ci := 4) (v := .ref mo) (C := RX5) (T := TX5) (N := 10) hx hb hts inX5_leave_X5 hown hK hP 0 rfl rfl 7 (by decide) (hts (.fieldLink RX5 31 "BondDeskModel" "of" "[I") (by decide +kernel)) (fun _ h9 => h9) rfl dX5_leave_14 ?_
  refine lv_bipush (v := 14) hx hb dX5_leave_17 (by decide) ?_
  refine lv_iload_n hx hb dX5_leave_19 rfl (lv_at hl 1 rfl) ?_
  refine lv_imul hx hb dX5_leave_20 ?_
  refine lv_bipush (v := 9) hx hb dX5_leave_21 (by decide) ?_
  refine lv_iadd hx hb dX5_leave_23 ?_
  refine lv_iconst (v := 0) hx hb dX5_leave_24 (by decide) ?_
  obtain ⟨c3, hf⟩ := gd_s hf
  refine va_iast hx hb hK hP hD hS 2 0 rfl rfl c3 dX5_leave_25 (fun H locs hP hD hS => ?_)
  obtain ⟨w4, ew4⟩ : ∃ z, z = upd w2 ((14 * a0) + 9).toNatClampNeg (0 : Int32) := ⟨_, rfl⟩
  have hf := bd_s hf ew4
  rw [← ew4] at hP hD
  have hP : va_P D vwCl [eM hm mh mo my mp M mc, eH cI mh mhol, eO cI mo w4, eY cI my mdy, eP cJ mp mpd] H := hP
  have hD : va_D A [eM hm mh mo my mp M mc, eH cI mh mhol, eO cI mo w4, eY cI my mdy, eP cJ mp mpd] := hD
  refine W.widen (k := 0) (n := 0) (Nat.le_of_ble_eq_true rfl) (Nat.le_of_ble_eq_true rfl) ?_
  have e9 := Option.some.inj hf
  subst e9
  exact W.vret hx hb hr (fun t ht hW => ⟨⟨(), rfl, trivial, by rw [ht]; exact hP, hD⟩, hS.F ht⟩) hS.2.2 dX5_leave_26
theorem inX5_look_X5 : ∀ w ∈ wsX50, w ∈ wsX5_look := by decide +kernel
set_option maxHeartbeats 4000000 in
set_option maxRecDepth 100000 in
theorem m_X5_look (l : Launch) (D : va_G) (cI cJ cO : ClassId) (hm : Nat) (mh : Nat) (mo : Nat) (my : Nat) (mp : Nat) (M : Nat → Int32) (mc : Int64) (mhol : Nat → Int32) (mof : Nat → Int32) (mdy : Nat → Int32) (mpd : Nat → Int64) (sz : Nat) (a0 : Int32) (N : Nat) (r : Int64 × Int64 × (Nat → Int32) × (Nat → Int64)) (hf : f_X5_look N M mc mof mdy mpd a0 = some r) : Met l yX5_look wsX5_look ({ frames := 5, cells := 0, slots := 0, locals := 129 }) (va_Pc [.ref hm, .int a0] (mP D (ty3 cI cJ cO) none [eM hm mh mo my mp M mc, eH cI mh mhol, eO cI mo mof, eY cI my mdy, eP cJ mp mpd] sz)) (mQl D (va_A [eM hm mh mo my mp M mc, eH cI mh mhol, eO cI mo mof, eY cI my mdy, eP cJ mp mpd] sz) r.1 [eM hm mh mo my mp M r.2.1, eH cI mh mhol, eO cI mo r.2.2.1, eY cI my mdy, eP cJ mp r.2.2.2]) 0 0 (va_A [eM hm mh mo my mp M mc, eH cI mh mhol, eO cI mo mof, eY cI my mdy, eP cJ mp mpd] sz) := by
  refine Met.ofW (cc := cX5_look) (maxL := 6) (ret := (some .long)) (by decide) rfl ?_
  intro p e s m args below meth c s₁ Bd hml hv
  obtain ⟨rfl, hsz, hZ, hP, hK, hD0⟩ := hv
  have hx := Bd.exec
  have hb := Bd.bytes
  have hr := Bd.returns
  have hts := atoms_spec (ws := wsX5_look) Bd.pre
  have hown : s.vm.findClass RX5 = some m.cls := findClass_of_methodNamed Bd.named
  have hlocks := Bd.notSynchronized
  subst hsz
  have hD := hD0.self (sz := s.heap.size)
  generalize hAe : va_A [eM hm mh mo my mp M mc, eH cI mh mhol, eO cI mo mof, eY cI my mdy, eP cJ mp mpd] s.heap.size = A at hD hZ ⊢
  have hA : ∀ q : Nat, s.heap.size ≤ q → A q := fun q h => by rw [← hAe]; exact Or.inr h
  have hS : va_S A s.heap s.heap [] := va_S.rf
  have hl := lv_entry ([.ref hm, .int a0]) (n := 6) (Nat.le_of_ble_eq_true rfl)
  rw [lg_entry_eq]
  generalize (lg_sl ([.ref hm, .int a0]) ++ List.replicate (6 - (lg_sl ([.ref hm, .int a0])).length) Slot.unset).toArray = ls at hl ⊢
  have hl : lv_has ls 6 [(0, .ref hm), (1, .int a0)] := hl
  unfold f_X5_look at hf
  refine lv_aload_n hx hb dX5_look_0 rfl (lv_at hl 0 rfl) ?_
  refine lv_iload_n hx hb dX5_look_1 rfl (lv_at hl 1 rfl) ?_
  refine lv_bipush (v := 7) hx hb dX5_look_2 (by decide) ?_
  obtain ⟨v1, hv1, hf⟩ := ob hf
  refine cSi (W.runV (As := [.int a0, .int 7]) (rest := []) ⟨hx, hb, hml, hown, hts⟩ (m_X5_own l D cI cJ cO hm mh mo my mp M mc mhol mof mdy mpd a0 7 v1 hv1) (cwV 2 hts gX5_look_X5_own rfl rfl rfl (by decide +kernel) ⟨(Nat.le_of_ble_eq_true rfl), (Nat.le_of_ble_eq_true rfl)⟩) ⟨pw_blind, va_recv hK hP (ci := 4) (q0 := 0) rfl rfl, fun U hU hW => ⟨rfl, pw_at hZ hS hP hK hU hW (Or.inr rfl) [0, 1, 2, 3, 4] rfl⟩⟩ rfl rfl hl.1 rfl (lv_room (Nat.le_of_ble_eq_true rfl)) dX5_look_4 ⟨(Nat.le_of_ble_eq_true rfl), (Nat.le_of_ble_eq_true rfl)⟩) ?_
  refine lv_istore_n (lv' := [(2, .int v1), (0, .ref hm), (1, .int a0)]) hx hb dX5_look_7 rfl hl (by decide) rfl (fun ls hl => ?_)
  refine lv_aload_n hx hb dX5_look_8 rfl (lv_at hl 1 rfl) ?_
  refine va_get (D := D) (ci := 4) (v := .ref mo) (C := RX5) (T := TX5) (N := 10) hx hb hts inX5_look_X5 hown hK hP 0 rfl rfl 7 (by decide) (hts (.fieldLink RX5 31 "BondDeskModel" "of" "[I") (by decide +kernel)) (fun _ h9 => h9) rfl dX5_look_9 ?_
  refine lv_bipush (v := 14) hx hb dX5_look_12 (by decide) ?_
  refine lv_iload_n hx hb dX5_look_14 rfl (lv_at hl 2 rfl) ?_
  refine lv_imul hx hb dX5_look_15 ?_
  refine lv_bipush (v := 7) hx hb dX5_look_16 (by decide) ?_
  refine lv_iadd hx hb dX5_look_18 ?_
  refine lv_topi (fun x2 ex2 => ?_)
  have hf := bd_s hf ex2
  refine lv_dup2_11 hx hb dX5_look_19 rfl rfl ?_
  obtain ⟨c3, hf⟩ := gd_s hf
  refine va_iald hx hb hK hP 2 0 rfl rfl c3 dX5_look_20 ?_
  refine lv_iconst (v := 1) hx hb dX5_look_21 (by decide) ?_
  refine lv_iadd hx hb dX5_look_22 ?_
  refine lv_topi (fun x4 ex4 => ?_)
  have hf := bd_s hf ex4
  obtain ⟨c5, hf⟩ := gd_s hf
  refine va_iast hx hb hK hP hD hS 2 0 rfl rfl c5 dX5_look_23 (fun H locs hP hD hS => ?_)
  obtain ⟨w6, ew6⟩ : ∃ z, z = upd mof x2.toNatClampNeg x4 := ⟨_, rfl⟩
  have hf := bd_s hf ew6
  rw [← ew6] at hP hD
  have hP : va_P D vwCl [eM hm mh mo my mp M mc, eH cI mh mhol, eO cI mo w6, eY cI my mdy, eP cJ mp mpd] H := hP
  have hD : va_D A [eM hm mh mo my mp M mc, eH cI mh mhol, eO cI mo w6, eY cI my mdy, eP cJ mp mpd] := hD
  refine lv_aload_n hx hb dX5_look_24 rfl (lv_at hl 1 rfl) ?_
  refine lv_iload_n hx hb dX5_look_25 rfl (lv_at hl 2 rfl) ?_
  refine lv_iconst (v := 0) hx hb dX5_look_26 (by decide) ?_
  refine lv_aload_n hx hb dX5_look_27 rfl (lv_at hl 1 rfl) ?_
  refine lv_iload_n hx hb dX5_look_28 rfl (lv_at hl 2 rfl) ?_
  refine lv_iload_n hx hb dX5_look_29 rfl (lv_at hl 0 rfl) ?_
  refine lv_ldc2 hx hb hown (hts (.constantLong RX5 159 (10)) (by decide +kernel)) dX5_look_30 ?_
  refine lv_aload_n hx hb dX5_look_33 rfl (lv_at hl 1 rfl) ?_
  refine lv_iload_n hx hb dX5_look_34 rfl (lv_at hl 2 rfl) ?_
  refine lv_iconst (v := 5) hx hb dX5_look_35 (by decide) ?_
  obtain ⟨v7, hv7, hf⟩ := ob hf
  refine cSi (W.runV (As := [.int a0, .int 5]) (rest := [.long 10, .int v1, .int a0, .ref hm, .int 0, .int a0, .ref hm]) ⟨hx, hb, hml, hown, hts⟩ (m_X5_own l D cI cJ cO hm mh mo my mp M mc mhol w6 mdy mpd a0 5 v7 hv7) (cwV 2 hts gX5_look_X5_own rfl rfl rfl (by decide +kernel) ⟨(Nat.le_of_ble_eq_true rfl), (Nat.le_of_ble_eq_true rfl)⟩) ⟨pw_blind, va_recv hK hP (ci := 4) (q0 := 0) rfl rfl, fun U hU hW => ⟨rfl, pw_at hZ hS hP hK hU hW (Or.inr rfl) [0, 1, 2, 3, 4] rfl⟩⟩ rfl rfl hl.1 rfl (lv_room (Nat.le_of_ble_eq_true rfl)) dX5_look_36 ⟨(Nat.le_of_ble_eq_true rfl), (Nat.le_of_ble_eq_true rfl)⟩) ?_
  refine lv_i2l hx hb dX5_look_39 rfl ?_
  refine lv_lmul hx hb dX5_look_40 ?_
  obtain ⟨v8, hv8, hf⟩ := ob hf
  refine cSi (W.runV (As := [.int a0, .int v1, .long (10 * v7.toInt64)]) (rest := [.int 0, .int a0, .ref hm]) ⟨hx, hb, hml, hown, hts⟩ (m_X5_coupon l D cI cJ cO hm mh mo my mp M mc mhol w6 mdy mpd a0 v1 (10 * v7.toInt64) N v8 hv8) (cwV 3 hts gX5_look_X5_coupon rfl rfl rfl (by decide +kernel) ⟨(Nat.le_of_ble_eq_true rfl), (Nat.le_of_ble_eq_true rfl)⟩) ⟨pw_blind, va_recv hK hP (ci := 4) (q0 := 0) rfl rfl, fun U hU hW => ⟨rfl, pw_at hZ hS hP hK hU hW (Or.inr rfl) [0, 1, 2, 3, 4] rfl⟩⟩ rfl rfl hl.1 rfl (lv_room (Nat.le_of_ble_eq_true rfl)) dX5_look_41 ⟨(Nat.le_of_ble_eq_true rfl), (Nat.le_of_ble_eq_true rfl)⟩) ?_
  refine lv_i2l hx hb dX5_look_44 rfl ?_
  obtain ⟨v9, hv9, hf⟩ := ob hf
  have hPc := hP.sub (ws' := [eM hm mh mo my mp M mc, eH cI mh mhol, eO cI mo w6, eY cI my mdy, eP cJ mp mpd]) [0, 1, 2, 3, 4] rfl
  have hDc := hD.sub (ws' := [eM hm mh mo my mp M mc, eH cI mh mhol, eO cI mo w6, eY cI my mdy, eP cJ mp mpd]) [0, 1, 2, 3, 4] (by decide) rfl
  have hFc := va_free (wc := [eM hm mh mo my mp M mc, eH cI mh mhol, eO cI mo w6, eY cI my mdy, eP cJ mp mpd]) hD hS hA [0, 1, 2, 3, 4] rfl
  refine va_calll (va_runV (As := [.int a0, .int 0, .long v8.toInt64]) (rest := []) ⟨hx, hb, hml, hown, hts⟩ (m_X5_pay l D cI cJ cO hm mh mo my mp M mc mhol w6 mdy mpd H.size a0 0 v8.toInt64 v9 hv9) (cwV 3 hts gX5_look_X5_pay rfl rfl rfl (by decide +kernel) ⟨(Nat.le_of_ble_eq_true rfl), (Nat.le_of_ble_eq_true rfl)⟩) ⟨mp_blind, va_recv hK hP (ci := 4) (q0 := 0) rfl rfl, fun U hU hW => ⟨rfl, mp_at hZ hS hPc hK hDc hFc hU hW (Or.inr rfl)⟩⟩ rfl rfl hl.1 rfl (lv_room (Nat.le_of_ble_eq_true rfl)) dX5_look_45 ⟨(Nat.le_of_ble_eq_true rfl), (Nat.le_of_ble_eq_true rfl)⟩) hS (fun q _ h => hFc q h) hFc (fun rv9 u t H1 locs ht9 hvm hw hBx hz1 hk1 hS => ?_)
  subst hw
  obtain ⟨hP1, hD1⟩ := hBx
  rw [ht9] at hP1
  obtain ⟨hP, hD⟩ := va_join (wr := []) (w1 := [eM hm mh mo my mp M v9.2.1, eH cI mh mhol, eO cI mo w6, eY cI my mdy, eP cJ mp v9.2.2]) hP hD [0, 1, 2, 3, 4] [] rfl rfl (by decide) (by decide) hk1 hFc hP1 hD1
  have hP := hP.sub (ws' := [eM hm mh mo my mp M v9.2.1, eH cI mh mhol, eO cI mo w6, eY cI my mdy, eP cJ mp v9.2.2]) [0, 1, 2, 3, 4] rfl
  have hD := hD.sub (ws' := [eM hm mh mo my mp M v9.2.1, eH cI mh mhol, eO cI mo w6, eY cI my mdy, eP cJ mp v9.2.2]) [0, 1, 2, 3, 4] (by decide) rfl
  generalize H1 = H at hP hS ⊢
  refine lv_lstore_n (lv' := [(3, .long v9.1), (2, .int v1), (0, .ref hm), (1, .int a0)]) hx hb dX5_look_48 rfl hl (by decide) rfl (fun ls hl => ?_)
  refine lv_iload_n hx hb dX5_look_49 rfl (lv_at hl 1 rfl) ?_
  refine lv_aload_n hx hb dX5_look_50 rfl (lv_at hl 2 rfl) ?_
  refine lv_iload_n hx hb dX5_look_51 rfl (lv_at hl 3 rfl) ?_
  refine lv_bipush (v := 6) hx hb dX5_look_52 (by decide) ?_
  obtain ⟨v10, hv10, hf⟩ := ob hf
  refine cSi (W.runV (As := [.int a0, .int 6]) (rest := [.int v1]) ⟨hx, hb, hml, hown, hts⟩ (m_X5_own l D cI cJ cO hm mh mo my mp M v9.2.1 mhol w6 mdy v9.2.2 a0 6 v10 hv10) (cwV 2 hts gX5_look_X5_own rfl rfl rfl (by decide +kernel) ⟨(Nat.le_of_ble_eq_true rfl), (Nat.le_of_ble_eq_true rfl)⟩) ⟨pw_blind, va_recv hK hP (ci := 4) (q0 := 0) rfl rfl, fun U hU hW => ⟨rfl, pw_at hZ hS hP hK hU hW (Or.inr rfl) [0, 1, 2, 3, 4] rfl⟩⟩ rfl rfl hl.1 rfl (lv_room (Nat.le_of_ble_eq_true rfl)) dX5_look_54 ⟨(Nat.le_of_ble_eq_true rfl), (Nat.le_of_ble_eq_true rfl)⟩) ?_
  refine lv_iconst (v := 1) hx hb dX5_look_57 (by decide) ?_
  refine lv_isub hx hb dX5_look_58 ?_
  refine lv_icmp_ne (tgt := 90) hx hb dX5_look_59 (by decide) (fun c11 => ?_) (fun c11 => ?_)
  · have hf := ie hf c11
    refine lv_aload_n hx hb dX5_look_90 rfl (lv_at hl 2 rfl) ?_
    refine lv_iload_n hx hb dX5_look_91 rfl (lv_at hl 3 rfl) ?_
    refine lv_iload_n hx hb dX5_look_92 rfl (lv_at hl 1 rfl) ?_
    obtain ⟨v12, hv12, hf⟩ := ob hf
    refine cSz (W.runV (As := [.int a0, .int v1]) (rest := []) ⟨hx, hb, hml, hown, hts⟩ (m_X5_isSunk l D cI cJ cO hm mh mo my mp M v9.2.1 mhol w6 mdy v9.2.2 a0 v1 v12 hv12) (cwV 2 hts gX5_look_X5_isSunk rfl rfl rfl (by decide +kernel) ⟨(Nat.le_of_ble_eq_true rfl), (Nat.le_of_ble_eq_true rfl)⟩) ⟨pw_blind, va_recv hK hP (ci := 4) (q0 := 0) rfl rfl, fun U hU hW => ⟨rfl, pw_at hZ hS hP hK hU hW (Or.inr rfl) [0, 1, 2, 3, 4] rfl⟩⟩ rfl rfl hl.1 rfl (lv_room (Nat.le_of_ble_eq_true rfl)) dX5_look_93 ⟨(Nat.le_of_ble_eq_true rfl), (Nat.le_of_ble_eq_true rfl)⟩) (fun zv12 => ?_)
    obtain ⟨K13, hK13, hf⟩ := jn_s hf
    have JK13 : ∀ (x14 : Int64) (w15 : Int64) (w16 : Nat → Int32) (w17 : Nat → Int64) (H : Heap) (locs : List Loc), va_P D vwCl [eM hm mh mo my mp M w15, eH cI mh mhol, eO cI mo w16, eY cI my mdy, eP cJ mp w17] H → va_D A [eM hm mh mo my mp M w15, eH cI mh mhol, eO cI mo w16, eY cI my mdy, eP cJ mp w17] → va_S A s.heap H locs → ∀ (ls : Array Slot), lv_has ls 6 [(0, .ref hm), (1, .int a0), (2, .int v1), (3, .long x14)] → K13 x14 w15 w16 w17 = some r → W p l e (headSpec wsX5_look ({ frames := 5, cells := 0, slots := 0, locals := 129 })).room s m ([.ref hm, .int a0] : List Value).toArray below meth c H locs 0 0 (MQ below (mQl D A r.1 [eM hm mh mo my mp M r.2.1, eH cI mh mhol, eO cI mo r.2.2.1, eY cI my mdy, eP cJ mp r.2.2.2]) ([.ref hm, .int a0] : List Value).toArray s 0 0 A) (F0 m 149 ls []) := by
      intro x14 w15 w16 w17 H locs hP hD hS ls hl hf
      rw [hK13] at hf
      refine lv_aload_n hx hb dX5_look_149 rfl (lv_at hl 0 rfl) ?_
      refine lv_iload_n hx hb dX5_look_150 rfl (lv_at hl 1 rfl) ?_
      refine lv_iconst (v := 5) hx hb dX5_look_151 (by decide) ?_
      obtain ⟨v18, hv18, hf⟩ := ob hf
      refine cSi (W.runV (As := [.int a0, .int 5]) (rest := []) ⟨hx, hb, hml, hown, hts⟩ (m_X5_own l D cI cJ cO hm mh mo my mp M w15 mhol w16 mdy w17 a0 5 v18 hv18) (cwV 2 hts gX5_look_X5_own rfl rfl rfl (by decide +kernel) ⟨(Nat.le_of_ble_eq_true rfl), (Nat.le_of_ble_eq_true rfl)⟩) ⟨pw_blind, va_recv hK hP (ci := 4) (q0 := 0) rfl rfl, fun U hU hW => ⟨rfl, pw_at hZ hS hP hK hU hW (Or.inr rfl) [0, 1, 2, 3, 4] rfl⟩⟩ rfl rfl hl.1 rfl (lv_room (Nat.le_of_ble_eq_true rfl)) dX5_look_152 ⟨(Nat.le_of_ble_eq_true rfl), (Nat.le_of_ble_eq_true rfl)⟩) ?_
      refine lv_if_ne (tgt := 167) hx hb dX5_look_155 (by decide) (fun c19 => ?_) (fun c19 => ?_)
      · have hf := ie hf c19
        refine lv_aload_n hx hb dX5_look_167 rfl (lv_at hl 0 rfl) ?_
        refine lv_iload_n hx hb dX5_look_168 rfl (lv_at hl 1 rfl) ?_
        refine lv_iload_n hx hb dX5_look_169 rfl (lv_at hl 2 rfl) ?_
        obtain ⟨v20, hv20, hf⟩ := ob hf
        refine cSz (W.runV (As := [.int a0, .int v1]) (rest := []) ⟨hx, hb, hml, hown, hts⟩ (m_X5_isCalled l D cI cJ cO hm mh mo my mp M w15 mhol w16 mdy w17 a0 v1 v20 hv20) (cwV 2 hts gX5_look_X5_isCalled rfl rfl rfl (by decide +kernel) ⟨(Nat.le_of_ble_eq_true rfl), (Nat.le_of_ble_eq_true rfl)⟩) ⟨pw_blind, va_recv hK hP (ci := 4) (q0 := 0) rfl rfl, fun U hU hW => ⟨rfl, pw_at hZ hS hP hK hU hW (Or.inr rfl) [0, 1, 2, 3, 4] rfl⟩⟩ rfl rfl hl.1 rfl (lv_room (Nat.le_of_ble_eq_true rfl)) dX5_look_170 ⟨(Nat.le_of_ble_eq_true rfl), (Nat.le_of_ble_eq_true rfl)⟩) (fun zv20 => ?_)
        refine lv_if_eq (tgt := 238) hx hb dX5_look_173 (by decide) (fun c21 => ?_) (fun c21 => ?_)
        · have hf := it hf c21
          refine lv_lload_n hx hb dX5_look_238 rfl (lv_at hl 3 rfl) ?_
          refine W.widen (k := 0) (n := 0) (Nat.le_of_ble_eq_true rfl) (Nat.le_of_ble_eq_true rfl) ?_
          have e9 := Option.some.inj hf
          subst e9
          exact W.lret hx hb hr (fun t ht hW => ⟨⟨_, (), rfl, rfl, by rw [ht]; exact hP, hD⟩, hS.F ht⟩) hS.2.2 dX5_look_239
        · have hf := ie hf c21
          refine lv_aload_n hx hb dX5_look_176 rfl (lv_at hl 0 rfl) ?_
          refine lv_iload_n hx hb dX5_look_177 rfl (lv_at hl 1 rfl) ?_
          refine lv_aload_n hx hb dX5_look_178 rfl (lv_at hl 0 rfl) ?_
          refine lv_iload_n hx hb dX5_look_179 rfl (lv_at hl 1 rfl) ?_
          refine lv_iload_n hx hb dX5_look_180 rfl (lv_at hl 2 rfl) ?_
          obtain ⟨v22, hv22, hf⟩ := ob hf
          refine cSi (W.runV (As := [.int a0, .int v1]) (rest := [.int a0, .ref hm]) ⟨hx, hb, hml, hown, hts⟩ (m_X5_couponDay l D cI cJ cO hm mh mo my mp M w15 mhol w16 mdy w17 a0 v1 v22 hv22) (cwV 2 hts gX5_look_X5_couponDay rfl rfl rfl (by decide +kernel) ⟨(Nat.le_of_ble_eq_true rfl), (Nat.le_of_ble_eq_true rfl)⟩) ⟨pw_blind, va_recv hK hP (ci := 4) (q0 := 0) rfl rfl, fun U hU hW => ⟨rfl, pw_at hZ hS hP hK hU hW (Or.inr rfl) [0, 1, 2, 3, 4] rfl⟩⟩ rfl rfl hl.1 rfl (lv_room (Nat.le_of_ble_eq_true rfl)) dX5_look_181 ⟨(Nat.le_of_ble_eq_true rfl), (Nat.le_of_ble_eq_true rfl)⟩) ?_
          refine lv_aload_n hx hb dX5_look_184 rfl (lv_at hl 0 rfl) ?_
          refine lv_iload_n hx hb dX5_look_185 rfl (lv_at hl 1 rfl) ?_
          refine lv_iconst (v := 5) hx hb dX5_look_186 (by decide) ?_
          obtain ⟨v23, hv23, hf⟩ := ob hf
          refine cSi (W.runV (As := [.int a0, .int 5]) (rest := [.int v22, .int a0, .ref hm]) ⟨hx, hb, hml, hown, hts⟩ (m_X5_own l D cI cJ cO hm mh mo my mp M w15 mhol w16 mdy w17 a0 5 v23 hv23) (cwV 2 hts gX5_look_X5_own rfl rfl rfl (by decide +kernel) ⟨(Nat.le_of_ble_eq_true rfl), (Nat.le_of_ble_eq_true rfl)⟩) ⟨pw_blind, va_recv hK hP (ci := 4) (q0 := 0) rfl rfl, fun U hU hW => ⟨rfl, pw_at hZ hS hP hK hU hW (Or.inr rfl) [0, 1, 2, 3, 4] rfl⟩⟩ rfl rfl hl.1 rfl (lv_room (Nat.le_of_ble_eq_true rfl)) dX5_look_187 ⟨(Nat.le_of_ble_eq_true rfl), (Nat.le_of_ble_eq_true rfl)⟩) ?_
          refine lv_aload_n hx hb dX5_look_190 rfl (lv_at hl 0 rfl) ?_
          refine va_get (D := D) (ci := 4) (v := .int (M 3)) (C := RX5) (T := TX5) (N := 10) hx hb hts inX5_look_X5 hown hK hP 0 rfl rfl 3 (by decide) (hts (.fieldLink RX5 24 "BondDeskModel" "rate" "I") (by decide +kernel)) (fun _ h9 => h9) rfl dX5_look_191 ?_
          obtain ⟨v24, hv24, hf⟩ := ob hf
          refine cSl (W.runV (As := [.int a0, .int v22, .int v23, .int (M 3)]) (rest := []) ⟨hx, hb, hml, hown, hts⟩ (m_X5_worthOn l D cI cJ cO hm mh mo my mp M w15 mhol w16 mdy w17 a0 v22 v23 (M 3) N v24 hv24) (cwV 4 hts gX5_look_X5_worthOn rfl rfl rfl (by decide +kernel) ⟨(Nat.le_of_ble_eq_true rfl), (Nat.le_of_ble_eq_true rfl)⟩) ⟨pw_blind, va_recv hK hP (ci := 4) (q0 := 0) rfl rfl, fun U hU hW => ⟨rfl, pw_at hZ hS hP hK hU hW (Or.inr rfl) [0, 1, 2, 3, 4] rfl⟩⟩ rfl rfl hl.1 rfl (lv_room (Nat.le_of_ble_eq_true rfl)) dX5_look_194 ⟨(Nat.le_of_ble_eq_true rfl), (Nat.le_of_ble_eq_true rfl)⟩) ?_
          refine lv_aload_n hx hb dX5_look_197 rfl (lv_at hl 0 rfl) ?_
          refine lv_iload_n hx hb dX5_look_198 rfl (lv_at hl 1 rfl) ?_
          refine lv_aload_n hx hb dX5_look_199 rfl (lv_at hl 0 rfl) ?_
          refine lv_iload_n hx hb dX5_look_200 rfl (lv_at hl 1 rfl) ?_
          refine lv_iconst (v := 5) hx hb dX5_look_201 (by decide) ?_
          obtain ⟨v25, hv25, hf⟩ := ob hf
          refine cSi (W.runV (As := [.int a0, .int 5]) (rest := [.int a0, .ref hm, .long v24]) ⟨hx, hb, hml, hown, hts⟩ (m_X5_own l D cI cJ cO hm mh mo my mp M w15 mhol w16 mdy w17 a0 5 v25 hv25) (cwV 2 hts gX5_look_X5_own rfl rfl rfl (by decide +kernel) ⟨(Nat.le_of_ble_eq_true rfl), (Nat.le_of_ble_eq_true rfl)⟩) ⟨pw_blind, va_recv hK hP (ci := 4) (q0 := 0) rfl rfl, fun U hU hW => ⟨rfl, pw_at hZ hS hP hK hU hW (Or.inr rfl) [0, 1, 2, 3, 4] rfl⟩⟩ rfl rfl hl.1 rfl (lv_room (Nat.le_of_ble_eq_true rfl)) dX5_look_202 ⟨(Nat.le_of_ble_eq_true rfl), (Nat.le_of_ble_eq_true rfl)⟩) ?_
          obtain ⟨v26, hv26, hf⟩ := ob hf
          refine cSl (W.runV (As := [.int a0, .int v25]) (rest := [.long v24]) ⟨hx, hb, hml, hown, hts⟩ (m_X5_callPaid l D cI cJ cO hm mh mo my mp M w15 mhol w16 mdy w17 a0 v25 v26 hv26) (cwV 2 hts gX5_look_X5_callPaid rfl rfl rfl (by decide +kernel) ⟨(Nat.le_of_ble_eq_true rfl), (Nat.le_of_ble_eq_true rfl)⟩) ⟨pw_blind, va_recv hK hP (ci := 4) (q0 := 0) rfl rfl, fun U hU hW => ⟨rfl, pw_at hZ hS hP hK hU hW (Or.inr rfl) [0, 1, 2, 3, 4] rfl⟩⟩ rfl rfl hl.1 rfl (lv_room (Nat.le_of_ble_eq_true rfl)) dX5_look_205 ⟨(Nat.le_of_ble_eq_true rfl), (Nat.le_of_ble_eq_true rfl)⟩) ?_
          refine W.lcmp hx hb dX5_look_208 ?_
          refine lv_if_le (tgt := 238) hx hb dX5_look_209 (by decide) (fun c27 => ?_) (fun c27 => ?_)
          · have hf := it hf c27
            refine lv_lload_n hx hb dX5_look_238 rfl (lv_at hl 3 rfl) ?_
            refine W.widen (k := 0) (n := 0) (Nat.le_of_ble_eq_true rfl) (Nat.le_of_ble_eq_true rfl) ?_
            have e9 := Option.some.inj hf
            subst e9
            exact W.lret hx hb hr (fun t ht hW => ⟨⟨_, (), rfl, rfl, by rw [ht]; exact hP, hD⟩, hS.F ht⟩) hS.2.2 dX5_look_239
          · have hf := ie hf c27
            refine lv_lload_n hx hb dX5_look_212 rfl (lv_at hl 3 rfl) ?_
            refine lv_aload_n hx hb dX5_look_213 rfl (lv_at hl 0 rfl) ?_
            refine lv_iload_n hx hb dX5_look_214 rfl (lv_at hl 1 rfl) ?_
            refine lv_iconst (v := 2) hx hb dX5_look_215 (by decide) ?_
            refine lv_aload_n hx hb dX5_look_216 rfl (lv_at hl 0 rfl) ?_
            refine lv_iload_n hx hb dX5_look_217 rfl (lv_at hl 1 rfl) ?_
            refine lv_aload_n hx hb dX5_look_218 rfl (lv_at hl 0 rfl) ?_
            refine lv_iload_n hx hb dX5_look_219 rfl (lv_at hl 1 rfl) ?_
            refine lv_iconst (v := 5) hx hb dX5_look_220 (by decide) ?_
            obtain ⟨v28, hv28, hf⟩ := ob hf
            refine cSi (W.runV (As := [.int a0, .int 5]) (rest := [.int a0, .ref hm, .int 2, .int a0, .ref hm, .long x14]) ⟨hx, hb, hml, hown, hts⟩ (m_X5_own l D cI cJ cO hm mh mo my mp M w15 mhol w16 mdy w17 a0 5 v28 hv28) (cwV 2 hts gX5_look_X5_own rfl rfl rfl (by decide +kernel) ⟨(Nat.le_of_ble_eq_true rfl), (Nat.le_of_ble_eq_true rfl)⟩) ⟨pw_blind, va_recv hK hP (ci := 4) (q0 := 0) rfl rfl, fun U hU hW => ⟨rfl, pw_at hZ hS hP hK hU hW (Or.inr rfl) [0, 1, 2, 3, 4] rfl⟩⟩ rfl rfl hl.1 rfl (lv_room (Nat.le_of_ble_eq_true rfl)) dX5_look_221 ⟨(Nat.le_of_ble_eq_true rfl), (Nat.le_of_ble_eq_true rfl)⟩) ?_
            obtain ⟨v29, hv29, hf⟩ := ob hf
            refine cSl (W.runV (As := [.int a0, .int v28]) (rest := [.int 2, .int a0, .ref hm, .long x14]) ⟨hx, hb, hml, hown, hts⟩ (m_X5_callPaid l D cI cJ cO hm mh mo my mp M w15 mhol w16 mdy w17 a0 v28 v29 hv29) (cwV 2 hts gX5_look_X5_callPaid rfl rfl rfl (by decide +kernel) ⟨(Nat.le_of_ble_eq_true rfl), (Nat.le_of_ble_eq_true rfl)⟩) ⟨pw_blind, va_recv hK hP (ci := 4) (q0 := 0) rfl rfl, fun U hU hW => ⟨rfl, pw_at hZ hS hP hK hU hW (Or.inr rfl) [0, 1, 2, 3, 4] rfl⟩⟩ rfl rfl hl.1 rfl (lv_room (Nat.le_of_ble_eq_true rfl)) dX5_look_224 ⟨(Nat.le_of_ble_eq_true rfl), (Nat.le_of_ble_eq_true rfl)⟩) ?_
            obtain ⟨v30, hv30, hf⟩ := ob hf
            have hPc := hP.sub (ws' := [eM hm mh mo my mp M w15, eH cI mh mhol, eO cI mo w16, eY cI my mdy, eP cJ mp w17]) [0, 1, 2, 3, 4] rfl
            have hDc := hD.sub (ws' := [eM hm mh mo my mp M w15, eH cI mh mhol, eO cI mo w16, eY cI my mdy, eP cJ mp w17]) [0, 1, 2, 3, 4] (by decide) rfl
            have hFc := va_free (wc := [eM hm mh mo my mp M w15, eH cI mh mhol, eO cI mo w16, eY cI my mdy, eP cJ mp w17]) hD hS hA [0, 1, 2, 3, 4] rfl
            refine va_calll (va_runV (As := [.int a0, .int 2, .long v29]) (rest := [.long x14]) ⟨hx, hb, hml, hown, hts⟩ (m_X5_pay l D cI cJ cO hm mh mo my mp M w15 mhol w16 mdy w17 H.size a0 2 v29 v30 hv30) (cwV 3 hts gX5_look_X5_pay rfl rfl rfl (by decide +kernel) ⟨(Nat.le_of_ble_eq_true rfl), (Nat.le_of_ble_eq_true rfl)⟩) ⟨mp_blind, va_recv hK hP (ci := 4) (q0 := 0) rfl rfl, fun U hU hW => ⟨rfl, mp_at hZ hS hPc hK hDc hFc hU hW (Or.inr rfl)⟩⟩ rfl rfl hl.1 rfl (lv_room (Nat.le_of_ble_eq_true rfl)) dX5_look_227 ⟨(Nat.le_of_ble_eq_true rfl), (Nat.le_of_ble_eq_true rfl)⟩) hS (fun q _ h => hFc q h) hFc (fun rv30 u t H1 locs ht9 hvm hw hBx hz1 hk1 hS => ?_)
            subst hw
            obtain ⟨hP1, hD1⟩ := hBx
            rw [ht9] at hP1
            obtain ⟨hP, hD⟩ := va_join (wr := []) (w1 := [eM hm mh mo my mp M v30.2.1, eH cI mh mhol, eO cI mo w16, eY cI my mdy, eP cJ mp v30.2.2]) hP hD [0, 1, 2, 3, 4] [] rfl rfl (by decide) (by decide) hk1 hFc hP1 hD1
            have hP := hP.sub (ws' := [eM hm mh mo my mp M v30.2.1, eH cI mh mhol, eO cI mo w16, eY cI my mdy, eP cJ mp v30.2.2]) [0, 1, 2, 3, 4] rfl
            have hD := hD.sub (ws' := [eM hm mh mo my mp M v30.2.1, eH cI mh mhol, eO cI mo w16, eY cI my mdy, eP cJ mp v30.2.2]) [0, 1, 2, 3, 4] (by decide) rfl
            generalize H1 = H at hP hS ⊢
            refine lv_ladd hx hb dX5_look_230 ?_
            refine lv_topl (fun x31 ex31 => ?_)
            have hf := bd_s hf ex31
            refine lv_lstore_n (lv' := [(3, .long x31), (0, .ref hm), (1, .int a0), (2, .int v1)]) hx hb dX5_look_231 rfl hl (by decide) rfl (fun ls hl => ?_)
            refine lv_aload_n hx hb dX5_look_232 rfl (lv_at hl 1 rfl) ?_
            refine lv_iload_n hx hb dX5_look_233 rfl (lv_at hl 2 rfl) ?_
            refine lv_iconst (v := 2) hx hb dX5_look_234 (by decide) ?_
            obtain ⟨v32, hv32, hf⟩ := ob hf
            have hPc := hP.sub (ws' := [eM hm mh mo my mp M v30.2.1, eH cI mh mhol, eO cI mo w16, eY cI my mdy, eP cJ mp v30.2.2]) [0, 1, 2, 3, 4] rfl
            have hDc := hD.sub (ws' := [eM hm mh mo my mp M v30.2.1, eH cI mh mhol, eO cI mo w16, eY cI my mdy, eP cJ mp v30.2.2]) [0, 1, 2, 3, 4] (by decide) rfl
            have hFc := va_free (wc := [eM hm mh mo my mp M v30.2.1, eH cI mh mhol, eO cI mo w16, eY cI my mdy, eP cJ mp v30.2.2]) hD hS hA [0, 1, 2, 3, 4] rfl
            refine va_callv (va_runV (As := [.int a0, .int 2]) (rest := []) ⟨hx, hb, hml, hown, hts⟩ (m_X5_leave l D cI cJ cO hm mh mo my mp M v30.2.1 mhol w16 mdy v30.2.2 H.size a0 2 v32 hv32) (cwV 2 hts gX5_look_X5_leave rfl rfl rfl (by decide +kernel) ⟨(Nat.le_of_ble_eq_true rfl), (Nat.le_of_ble_eq_true rfl)⟩) ⟨mp_blind, va_recv hK hP (ci := 4) (q0 := 0) rfl rfl, fun U hU hW => ⟨rfl, mp_at hZ hS hPc hK hDc hFc hU hW (Or.inr rfl)⟩⟩ rfl rfl hl.1 rfl (lv_room (Nat.le_of_ble_eq_true rfl)) dX5_look_235 ⟨(Nat.le_of_ble_eq_true rfl), (Nat.le_of_ble_eq_true rfl)⟩) hS (fun q _ h => hFc q h) hFc (fun u t H1 locs ht9 hvm hw hBx hz1 hk1 hS => ?_)
            obtain ⟨hP1, hD1⟩ := hBx
            rw [ht9] at hP1
            obtain ⟨hP, hD⟩ := va_join (wr := []) (w1 := [eM hm mh mo my mp M v30.2.1, eH cI mh mhol, eO cI mo v32, eY cI my mdy, eP cJ mp v30.2.2]) hP hD [0, 1, 2, 3, 4] [] rfl rfl (by decide) (by decide) hk1 hFc hP1 hD1
            have hP := hP.sub (ws' := [eM hm mh mo my mp M v30.2.1, eH cI mh mhol, eO cI mo v32, eY cI my mdy, eP cJ mp v30.2.2]) [0, 1, 2, 3, 4] rfl
            have hD := hD.sub (ws' := [eM hm mh mo my mp M v30.2.1, eH cI mh mhol, eO cI mo v32, eY cI my mdy, eP cJ mp v30.2.2]) [0, 1, 2, 3, 4] (by decide) rfl
            generalize H1 = H at hP hS ⊢
            refine lv_lload_n hx hb dX5_look_238 rfl (lv_at hl 0 rfl) ?_
            refine W.widen (k := 0) (n := 0) (Nat.le_of_ble_eq_true rfl) (Nat.le_of_ble_eq_true rfl) ?_
            have e9 := Option.some.inj hf
            subst e9
            exact W.lret hx hb hr (fun t ht hW => ⟨⟨_, (), rfl, rfl, by rw [ht]; exact hP, hD⟩, hS.F ht⟩) hS.2.2 dX5_look_239
      · have hf := it hf c19
        refine lv_aload_n hx hb dX5_look_158 rfl (lv_at hl 0 rfl) ?_
        refine lv_iload_n hx hb dX5_look_159 rfl (lv_at hl 1 rfl) ?_
        refine lv_iconst (v := 1) hx hb dX5_look_160 (by decide) ?_
        obtain ⟨v33, hv33, hf⟩ := ob hf
        have hPc := hP.sub (ws' := [eM hm mh mo my mp M w15, eH cI mh mhol, eO cI mo w16, eY cI my mdy, eP cJ mp w17]) [0, 1, 2, 3, 4] rfl
        have hDc := hD.sub (ws' := [eM hm mh mo my mp M w15, eH cI mh mhol, eO cI mo w16, eY cI my mdy, eP cJ mp w17]) [0, 1, 2, 3, 4] (by decide) rfl
        have hFc := va_free (wc := [eM hm mh mo my mp M w15, eH cI mh mhol, eO cI mo w16, eY cI my mdy, eP cJ mp w17]) hD hS hA [0, 1, 2, 3, 4] rfl
        refine va_callv (va_runV (As := [.int a0, .int 1]) (rest := []) ⟨hx, hb, hml, hown, hts⟩ (m_X5_leave l D cI cJ cO hm mh mo my mp M w15 mhol w16 mdy w17 H.size a0 1 v33 hv33) (cwV 2 hts gX5_look_X5_leave rfl rfl rfl (by decide +kernel) ⟨(Nat.le_of_ble_eq_true rfl), (Nat.le_of_ble_eq_true rfl)⟩) ⟨mp_blind, va_recv hK hP (ci := 4) (q0 := 0) rfl rfl, fun U hU hW => ⟨rfl, mp_at hZ hS hPc hK hDc hFc hU hW (Or.inr rfl)⟩⟩ rfl rfl hl.1 rfl (lv_room (Nat.le_of_ble_eq_true rfl)) dX5_look_161 ⟨(Nat.le_of_ble_eq_true rfl), (Nat.le_of_ble_eq_true rfl)⟩) hS (fun q _ h => hFc q h) hFc (fun u t H1 locs ht9 hvm hw hBx hz1 hk1 hS => ?_)
        obtain ⟨hP1, hD1⟩ := hBx
        rw [ht9] at hP1
        obtain ⟨hP, hD⟩ := va_join (wr := []) (w1 := [eM hm mh mo my mp M w15, eH cI mh mhol, eO cI mo v33, eY cI my mdy, eP cJ mp w17]) hP hD [0, 1, 2, 3, 4] [] rfl rfl (by decide) (by decide) hk1 hFc hP1 hD1
        have hP := hP.sub (ws' := [eM hm mh mo my mp M w15, eH cI mh mhol, eO cI mo v33, eY cI my mdy, eP cJ mp w17]) [0, 1, 2, 3, 4] rfl
        have hD := hD.sub (ws' := [eM hm mh mo my mp M w15, eH cI mh mhol, eO cI mo v33, eY cI my mdy, eP cJ mp w17]) [0, 1, 2, 3, 4] (by decide) rfl
        generalize H1 = H at hP hS ⊢
        refine lv_goto (tgt := 238) hx hb dX5_look_164 (by decide) ?_
        refine lv_lload_n hx hb dX5_look_238 rfl (lv_at hl 3 rfl) ?_
        refine W.widen (k := 0) (n := 0) (Nat.le_of_ble_eq_true rfl) (Nat.le_of_ble_eq_true rfl) ?_
        have e9 := Option.some.inj hf
        subst e9
        exact W.lret hx hb hr (fun t ht hW => ⟨⟨_, (), rfl, rfl, by rw [ht]; exact hP, hD⟩, hS.F ht⟩) hS.2.2 dX5_look_239
    refine lv_if_eq (tgt := 149) hx hb dX5_look_96 (by decide) (fun c34 => ?_) (fun c34 => ?_)
    · have hf := it hf c34
      exact JK13 v9.1 v9.2.1 w6 v9.2.2 _ _ hP hD hS ls (lv_sub hl [2, 3, 1, 0] rfl) hf
    · have hf := ie hf c34
      refine lv_aload_n hx hb dX5_look_99 rfl (lv_at hl 2 rfl) ?_
      refine lv_iload_n hx hb dX5_look_100 rfl (lv_at hl 3 rfl) ?_
      refine lv_iconst (v := 5) hx hb dX5_look_101 (by decide) ?_
      obtain ⟨v35, hv35, hf⟩ := ob hf
      refine cSi (W.runV (As := [.int a0, .int 5]) (rest := []) ⟨hx, hb, hml, hown, hts⟩ (m_X5_own l D cI cJ cO hm mh mo my mp M v9.2.1 mhol w6 mdy v9.2.2 a0 5 v35 hv35) (cwV 2 hts gX5_look_X5_own rfl rfl rfl (by decide +kernel) ⟨(Nat.le_of_ble_eq_true rfl), (Nat.le_of_ble_eq_true rfl)⟩) ⟨pw_blind, va_recv hK hP (ci := 4) (q0 := 0) rfl rfl, fun U hU hW => ⟨rfl, pw_at hZ hS hP hK hU hW (Or.inr rfl) [0, 1, 2, 3, 4] rfl⟩⟩ rfl rfl hl.1 rfl (lv_room (Nat.le_of_ble_eq_true rfl)) dX5_look_102 ⟨(Nat.le_of_ble_eq_true rfl), (Nat.le_of_ble_eq_true rfl)⟩) ?_
      refine lv_aload_n hx hb dX5_look_105 rfl (lv_at hl 2 rfl) ?_
      refine lv_iload_n hx hb dX5_look_106 rfl (lv_at hl 3 rfl) ?_
      refine lv_bipush (v := 11) hx hb dX5_look_107 (by decide) ?_
      obtain ⟨v36, hv36, hf⟩ := ob hf
      refine cSi (W.runV (As := [.int a0, .int 11]) (rest := [.int v35]) ⟨hx, hb, hml, hown, hts⟩ (m_X5_own l D cI cJ cO hm mh mo my mp M v9.2.1 mhol w6 mdy v9.2.2 a0 11 v36 hv36) (cwV 2 hts gX5_look_X5_own rfl rfl rfl (by decide +kernel) ⟨(Nat.le_of_ble_eq_true rfl), (Nat.le_of_ble_eq_true rfl)⟩) ⟨pw_blind, va_recv hK hP (ci := 4) (q0 := 0) rfl rfl, fun U hU hW => ⟨rfl, pw_at hZ hS hP hK hU hW (Or.inr rfl) [0, 1, 2, 3, 4] rfl⟩⟩ rfl rfl hl.1 rfl (lv_room (Nat.le_of_ble_eq_true rfl)) dX5_look_109 ⟨(Nat.le_of_ble_eq_true rfl), (Nat.le_of_ble_eq_true rfl)⟩) ?_
      refine va_mmin hx hb (hml.trans hl.1.symm) hown (hts (.methodLink RX5 80 Lib.Math.min.name) (by decide +kernel)) (hts (.static Lib.Math.min.name) (by decide +kernel)) (hts (.initialized "java/lang/Math") (by decide +kernel)) (hts (.code Lib.Math.min.name Lib.Math.min.code 2 (some .int)) (by decide +kernel)) (Nat.le_of_ble_eq_true rfl) (Nat.le_of_ble_eq_true rfl) (Nat.le_of_ble_eq_true rfl) (Nat.le_of_ble_eq_true rfl) dX5_look_112 ?_
      refine lv_topi (fun x37 ex37 => ?_)
      have hf := bd_s hf ex37
      refine lv_istore (lv' := [(5, .int x37), (3, .long v9.1), (2, .int v1), (0, .ref hm), (1, .int a0)]) hx hb dX5_look_115 hl (by decide) rfl (fun ls hl => ?_)
      refine lv_lload_n hx hb dX5_look_117 rfl (lv_at hl 1 rfl) ?_
      refine lv_aload_n hx hb dX5_look_118 rfl (lv_at hl 3 rfl) ?_
      refine lv_iload_n hx hb dX5_look_119 rfl (lv_at hl 4 rfl) ?_
      refine lv_iconst (v := 1) hx hb dX5_look_120 (by decide) ?_
      refine lv_ldc2 hx hb hown (hts (.constantLong RX5 159 (10)) (by decide +kernel)) dX5_look_121 ?_
      refine lv_iload hx hb dX5_look_124 (lv_at hl 0 rfl) ?_
      refine lv_i2l hx hb dX5_look_126 rfl ?_
      refine lv_lmul hx hb dX5_look_127 ?_
      obtain ⟨v38, hv38, hf⟩ := ob hf
      have hPc := hP.sub (ws' := [eM hm mh mo my mp M v9.2.1, eH cI mh mhol, eO cI mo w6, eY cI my mdy, eP cJ mp v9.2.2]) [0, 1, 2, 3, 4] rfl
      have hDc := hD.sub (ws' := [eM hm mh mo my mp M v9.2.1, eH cI mh mhol, eO cI mo w6, eY cI my mdy, eP cJ mp v9.2.2]) [0, 1, 2, 3, 4] (by decide) rfl
      have hFc := va_free (wc := [eM hm mh mo my mp M v9.2.1, eH cI mh mhol, eO cI mo w6, eY cI my mdy, eP cJ mp v9.2.2]) hD hS hA [0, 1, 2, 3, 4] rfl
      refine va_calll (va_runV (As := [.int a0, .int 1, .long (10 * x37.toInt64)]) (rest := [.long v9.1]) ⟨hx, hb, hml, hown, hts⟩ (m_X5_pay l D cI cJ cO hm mh mo my mp M v9.2.1 mhol w6 mdy v9.2.2 H.size a0 1 (10 * x37.toInt64) v38 hv38) (cwV 3 hts gX5_look_X5_pay rfl rfl rfl (by decide +kernel) ⟨(Nat.le_of_ble_eq_true rfl), (Nat.le_of_ble_eq_true rfl)⟩) ⟨mp_blind, va_recv hK hP (ci := 4) (q0 := 0) rfl rfl, fun U hU hW => ⟨rfl, mp_at hZ hS hPc hK hDc hFc hU hW (Or.inr rfl)⟩⟩ rfl rfl hl.1 rfl (lv_room (Nat.le_of_ble_eq_true rfl)) dX5_look_128 ⟨(Nat.le_of_ble_eq_true rfl), (Nat.le_of_ble_eq_true rfl)⟩) hS (fun q _ h => hFc q h) hFc (fun rv38 u t H1 locs ht9 hvm hw hBx hz1 hk1 hS => ?_)
      subst hw
      obtain ⟨hP1, hD1⟩ := hBx
      rw [ht9] at hP1
      obtain ⟨hP, hD⟩ := va_join (wr := []) (w1 := [eM hm mh mo my mp M v38.2.1, eH cI mh mhol, eO cI mo w6, eY cI my mdy, eP cJ mp v38.2.2]) hP hD [0, 1, 2, 3, 4] [] rfl rfl (by decide) (by decide) hk1 hFc hP1 hD1
      have hP := hP.sub (ws' := [eM hm mh mo my mp M v38.2.1, eH cI mh mhol, eO cI mo w6, eY cI my mdy, eP cJ mp v38.2.2]) [0, 1, 2, 3, 4] rfl
      have hD := hD.sub (ws' := [eM hm mh mo my mp M v38.2.1, eH cI mh mhol, eO cI mo w6, eY cI my mdy, eP cJ mp v38.2.2]) [0, 1, 2, 3, 4] (by decide) rfl
      generalize H1 = H at hP hS ⊢
      refine lv_ladd hx hb dX5_look_131 ?_
      refine lv_topl (fun x39 ex39 => ?_)
      have hf := bd_s hf ex39
      refine lv_lstore_n (lv' := [(3, .long x39), (5, .int x37), (2, .int v1), (0, .ref hm), (1, .int a0)]) hx hb dX5_look_132 rfl hl (by decide) rfl (fun ls hl => ?_)
      refine lv_aload_n hx hb dX5_look_133 rfl (lv_at hl 3 rfl) ?_
      refine va_get (D := D) (ci := 4) (v := .ref mo) (C := RX5) (T := TX5) (N := 10) hx hb hts inX5_look_X5 hown hK hP 0 rfl rfl 7 (by decide) (hts (.fieldLink RX5 31 "BondDeskModel" "of" "[I") (by decide +kernel)) (fun _ h9 => h9) rfl dX5_look_134 ?_
      refine lv_bipush (v := 14) hx hb dX5_look_137 (by decide) ?_
      refine lv_iload_n hx hb dX5_look_139 rfl (lv_at hl 4 rfl) ?_
      refine lv_imul hx hb dX5_look_140 ?_
      refine lv_iconst (v := 5) hx hb dX5_look_141 (by decide) ?_
      refine lv_iadd hx hb dX5_look_142 ?_
      refine lv_topi (fun x40 ex40 => ?_)
      have hf := bd_s hf ex40
      refine lv_dup2_11 hx hb dX5_look_143 rfl rfl ?_
      obtain ⟨c41, hf⟩ := gd_s hf
      refine va_iald hx hb hK hP 2 0 rfl rfl c41 dX5_look_144 ?_
      refine lv_iload hx hb dX5_look_145 (lv_at hl 1 rfl) ?_
      refine lv_isub hx hb dX5_look_147 ?_
      refine lv_topi (fun x42 ex42 => ?_)
      have hf := bd_s hf ex42
      obtain ⟨c43, hf⟩ := gd_s hf
      refine va_iast hx hb hK hP hD hS 2 0 rfl rfl c43 dX5_look_148 (fun H locs hP hD hS => ?_)
      obtain ⟨w44, ew44⟩ : ∃ z, z = upd w6 x40.toNatClampNeg x42 := ⟨_, rfl⟩
      have hf := bd_s hf ew44
      rw [← ew44] at hP hD
      have hP : va_P D vwCl [eM hm mh mo my mp M v38.2.1, eH cI mh mhol, eO cI mo w44, eY cI my mdy, eP cJ mp v38.2.2] H := hP
      have hD : va_D A [eM hm mh mo my mp M v38.2.1, eH cI mh mhol, eO cI mo w44, eY cI my mdy, eP cJ mp v38.2.2] := hD
      exact JK13 x39 v38.2.1 w44 v38.2.2 _ _ hP hD hS ls (lv_sub hl [3, 4, 2, 0] rfl) hf
  · have hf := it hf c11
    refine lv_lload_n hx hb dX5_look_62 rfl (lv_at hl 0 rfl) ?_
    refine lv_aload_n hx hb dX5_look_63 rfl (lv_at hl 2 rfl) ?_
    refine lv_iload_n hx hb dX5_look_64 rfl (lv_at hl 3 rfl) ?_
    refine lv_iconst (v := 3) hx hb dX5_look_65 (by decide) ?_
    refine lv_ldc2 hx hb hown (hts (.constantLong RX5 159 (10)) (by decide +kernel)) dX5_look_66 ?_
    refine lv_aload_n hx hb dX5_look_69 rfl (lv_at hl 2 rfl) ?_
    refine lv_iload_n hx hb dX5_look_70 rfl (lv_at hl 3 rfl) ?_
    refine lv_iconst (v := 5) hx hb dX5_look_71 (by decide) ?_
    obtain ⟨v45, hv45, hf⟩ := ob hf
    refine cSi (W.runV (As := [.int a0, .int 5]) (rest := [.long 10, .int 3, .int a0, .ref hm, .long v9.1]) ⟨hx, hb, hml, hown, hts⟩ (m_X5_own l D cI cJ cO hm mh mo my mp M v9.2.1 mhol w6 mdy v9.2.2 a0 5 v45 hv45) (cwV 2 hts gX5_look_X5_own rfl rfl rfl (by decide +kernel) ⟨(Nat.le_of_ble_eq_true rfl), (Nat.le_of_ble_eq_true rfl)⟩) ⟨pw_blind, va_recv hK hP (ci := 4) (q0 := 0) rfl rfl, fun U hU hW => ⟨rfl, pw_at hZ hS hP hK hU hW (Or.inr rfl) [0, 1, 2, 3, 4] rfl⟩⟩ rfl rfl hl.1 rfl (lv_room (Nat.le_of_ble_eq_true rfl)) dX5_look_72 ⟨(Nat.le_of_ble_eq_true rfl), (Nat.le_of_ble_eq_true rfl)⟩) ?_
    refine lv_i2l hx hb dX5_look_75 rfl ?_
    refine lv_lmul hx hb dX5_look_76 ?_
    obtain ⟨v46, hv46, hf⟩ := ob hf
    have hPc := hP.sub (ws' := [eM hm mh mo my mp M v9.2.1, eH cI mh mhol, eO cI mo w6, eY cI my mdy, eP cJ mp v9.2.2]) [0, 1, 2, 3, 4] rfl
    have hDc := hD.sub (ws' := [eM hm mh mo my mp M v9.2.1, eH cI mh mhol, eO cI mo w6, eY cI my mdy, eP cJ mp v9.2.2]) [0, 1, 2, 3, 4] (by decide) rfl
    have hFc := va_free (wc := [eM hm mh mo my mp M v9.2.1, eH cI mh mhol, eO cI mo w6, eY cI my mdy, eP cJ mp v9.2.2]) hD hS hA [0, 1, 2, 3, 4] rfl
    refine va_calll (va_runV (As := [.int a0, .int 3, .long (10 * v45.toInt64)]) (rest := [.long v9.1]) ⟨hx, hb, hml, hown, hts⟩ (m_X5_pay l D cI cJ cO hm mh mo my mp M v9.2.1 mhol w6 mdy v9.2.2 H.size a0 3 (10 * v45.toInt64) v46 hv46) (cwV 3 hts gX5_look_X5_pay rfl rfl rfl (by decide +kernel) ⟨(Nat.le_of_ble_eq_true rfl), (Nat.le_of_ble_eq_true rfl)⟩) ⟨mp_blind, va_recv hK hP (ci := 4) (q0 := 0) rfl rfl, fun U hU hW => ⟨rfl, mp_at hZ hS hPc hK hDc hFc hU hW (Or.inr rfl)⟩⟩ rfl rfl hl.1 rfl (lv_room (Nat.le_of_ble_eq_true rfl)) dX5_look_77 ⟨(Nat.le_of_ble_eq_true rfl), (Nat.le_of_ble_eq_true rfl)⟩) hS (fun q _ h => hFc q h) hFc (fun rv46 u t H1 locs ht9 hvm hw hBx hz1 hk1 hS => ?_)
    subst hw
    obtain ⟨hP1, hD1⟩ := hBx
    rw [ht9] at hP1
    obtain ⟨hP, hD⟩ := va_join (wr := []) (w1 := [eM hm mh mo my mp M v46.2.1, eH cI mh mhol, eO cI mo w6, eY cI my mdy, eP cJ mp v46.2.2]) hP hD [0, 1, 2, 3, 4] [] rfl rfl (by decide) (by decide) hk1 hFc hP1 hD1
    have hP := hP.sub (ws' := [eM hm mh mo my mp M v46.2.1, eH cI mh mhol, eO cI mo w6, eY cI my mdy, eP cJ mp v46.2.2]) [0, 1, 2, 3, 4] rfl
    have hD := hD.sub (ws' := [eM hm mh mo my mp M v46.2.1, eH cI mh mhol, eO cI mo w6, eY cI my mdy, eP cJ mp v46.2.2]) [0, 1, 2, 3, 4] (by decide) rfl
    generalize H1 = H at hP hS ⊢
    refine lv_ladd hx hb dX5_look_80 ?_
    refine lv_topl (fun x47 ex47 => ?_)
    have hf := bd_s hf ex47
    refine lv_lstore_n (lv' := [(3, .long x47), (2, .int v1), (0, .ref hm), (1, .int a0)]) hx hb dX5_look_81 rfl hl (by decide) rfl (fun ls hl => ?_)
    refine lv_aload_n hx hb dX5_look_82 rfl (lv_at hl 2 rfl) ?_
    refine lv_iload_n hx hb dX5_look_83 rfl (lv_at hl 3 rfl) ?_
    refine lv_iconst (v := 1) hx hb dX5_look_84 (by decide) ?_
    obtain ⟨v48, hv48, hf⟩ := ob hf
    have hPc := hP.sub (ws' := [eM hm mh mo my mp M v46.2.1, eH cI mh mhol, eO cI mo w6, eY cI my mdy, eP cJ mp v46.2.2]) [0, 1, 2, 3, 4] rfl
    have hDc := hD.sub (ws' := [eM hm mh mo my mp M v46.2.1, eH cI mh mhol, eO cI mo w6, eY cI my mdy, eP cJ mp v46.2.2]) [0, 1, 2, 3, 4] (by decide) rfl
    have hFc := va_free (wc := [eM hm mh mo my mp M v46.2.1, eH cI mh mhol, eO cI mo w6, eY cI my mdy, eP cJ mp v46.2.2]) hD hS hA [0, 1, 2, 3, 4] rfl
    refine va_callv (va_runV (As := [.int a0, .int 1]) (rest := []) ⟨hx, hb, hml, hown, hts⟩ (m_X5_leave l D cI cJ cO hm mh mo my mp M v46.2.1 mhol w6 mdy v46.2.2 H.size a0 1 v48 hv48) (cwV 2 hts gX5_look_X5_leave rfl rfl rfl (by decide +kernel) ⟨(Nat.le_of_ble_eq_true rfl), (Nat.le_of_ble_eq_true rfl)⟩) ⟨mp_blind, va_recv hK hP (ci := 4) (q0 := 0) rfl rfl, fun U hU hW => ⟨rfl, mp_at hZ hS hPc hK hDc hFc hU hW (Or.inr rfl)⟩⟩ rfl rfl hl.1 rfl (lv_room (Nat.le_of_ble_eq_true rfl)) dX5_look_85 ⟨(Nat.le_of_ble_eq_true rfl), (Nat.le_of_ble_eq_true rfl)⟩) hS (fun q _ h => hFc q h) hFc (fun u t H1 locs ht9 hvm hw hBx hz1 hk1 hS => ?_)
    obtain ⟨hP1, hD1⟩ := hBx
    rw [ht9] at hP1
    obtain ⟨hP, hD⟩ := va_join (wr := []) (w1 := [eM hm mh mo my mp M v46.2.1, eH cI mh mhol, eO cI mo v48, eY cI my mdy, eP cJ mp v46.2.2]) hP hD [0, 1, 2, 3, 4] [] rfl rfl (by decide) (by decide) hk1 hFc hP1 hD1
    have hP := hP.sub (ws' := [eM hm mh mo my mp M v46.2.1, eH cI mh mhol, eO cI mo v48, eY cI my mdy, eP cJ mp v46.2.2]) [0, 1, 2, 3, 4] rfl
    have hD := hD.sub (ws' := [eM hm mh mo my mp M v46.2.1, eH cI mh mhol, eO cI mo v48, eY cI my mdy, eP cJ mp v46.2.2]) [0, 1, 2, 3, 4] (by decide) rfl
    generalize H1 = H at hP hS ⊢
    refine lv_lload_n hx hb dX5_look_88 rfl (lv_at hl 0 rfl) ?_
    refine W.widen (k := 0) (n := 0) (Nat.le_of_ble_eq_true rfl) (Nat.le_of_ble_eq_true rfl) ?_
    have e9 := Option.some.inj hf
    subst e9
    exact W.lret hx hb hr (fun t ht hW => ⟨⟨_, (), rfl, rfl, by rw [ht]; exact hP, hD⟩, hS.F ht⟩) hS.2.2 dX5_look_89
theorem inX5_pass_X5 : ∀ w ∈ wsX50, w ∈ wsX5_pass := by decide +kernel
set_option maxHeartbeats 4000000 in
set_option maxRecDepth 100000 in
theorem m_X5_pass (l : Launch) (D : va_G) (cI cJ cO : ClassId) (hm : Nat) (mh : Nat) (mo : Nat) (my : Nat) (mp : Nat) (M : Nat → Int32) (mc : Int64) (mhol : Nat → Int32) (mof : Nat → Int32) (mdy : Nat → Int32) (mpd : Nat → Int64) (sz : Nat) (a0 : Int32) (N : Nat) (r : Int64 × (Nat → Int32) × Int64 × (Nat → Int32) × (Nat → Int64)) (hf : f_X5_pass N M mc mhol mof mdy mpd a0 = some r) : Met l yX5_pass wsX5_pass ({ frames := 6, cells := 0, slots := 0, locals := 154 }) (va_Pc [.ref hm, .int a0] (mP D (ty3 cI cJ cO) none [eM hm mh mo my mp M mc, eH cI mh mhol, eO cI mo mof, eY cI my mdy, eP cJ mp mpd] sz)) (mQl D (va_A [eM hm mh mo my mp M mc, eH cI mh mhol, eO cI mo mof, eY cI my mdy, eP cJ mp mpd] sz) r.1 [eM hm mh mo my mp r.2.1 r.2.2.1, eH cI mh mhol, eO cI mo r.2.2.2.1, eY cI my mdy, eP cJ mp r.2.2.2.2]) 0 0 (va_A [eM hm mh mo my mp M mc, eH cI mh mhol, eO cI mo mof, eY cI my mdy, eP cJ mp mpd] sz) := by
  refine Met.ofW (cc := cX5_pass) (maxL := 6) (ret := (some .long)) (by decide) rfl ?_
  intro p e s m args below meth c s₁ Bd hml hv
  obtain ⟨rfl, hsz, hZ, hP, hK, hD0⟩ := hv
  have hx := Bd.exec
  have hb := Bd.bytes
  have hr := Bd.returns
  have hts := atoms_spec (ws := wsX5_pass) Bd.pre
  have hown : s.vm.findClass RX5 = some m.cls := findClass_of_methodNamed Bd.named
  have hlocks := Bd.notSynchronized
  subst hsz
  have hD := hD0.self (sz := s.heap.size)
  generalize hAe : va_A [eM hm mh mo my mp M mc, eH cI mh mhol, eO cI mo mof, eY cI my mdy, eP cJ mp mpd] s.heap.size = A at hD hZ ⊢
  have hA : ∀ q : Nat, s.heap.size ≤ q → A q := fun q h => by rw [← hAe]; exact Or.inr h
  have hS : va_S A s.heap s.heap [] := va_S.rf
  have hl := lv_entry ([.ref hm, .int a0]) (n := 6) (Nat.le_of_ble_eq_true rfl)
  rw [lg_entry_eq]
  generalize (lg_sl ([.ref hm, .int a0]) ++ List.replicate (6 - (lg_sl ([.ref hm, .int a0])).length) Slot.unset).toArray = ls at hl ⊢
  have hl : lv_has ls 6 [(0, .ref hm), (1, .int a0)] := hl
  unfold f_X5_pass at hf
  refine lv_aload_n hx hb dX5_pass_0 rfl (lv_at hl 0 rfl) ?_
  refine lv_iconst (v := 0) hx hb dX5_pass_1 (by decide) ?_
  refine va_put (D := D) (ci := 4) (v := .int 0) (ty := .int) (C := RX5) (T := TX5) (N := 10) hx hb hts inX5_pass_X5 tyX5 tyX5_ok nmX5 hown hK hP hD hS 0 rfl rfl 0 (by decide) (hts (.fieldLink RX5 41 "BondDeskModel" "thrown" "I") (by decide +kernel)) (fun _ h9 => h9) rfl (by decide +kernel) rfl rfl (Nat.le_of_ble_eq_true rfl) dX5_pass_2 (fun H locs hP hD hS => ?_)
  have hP : va_P D vwCl [eM hm mh mo my mp (va_up M 0 (0 : Int32)) mc, eH cI mh mhol, eO cI mo mof, eY cI my mdy, eP cJ mp mpd] H := hP
  have hD : va_D A [eM hm mh mo my mp (va_up M 0 (0 : Int32)) mc, eH cI mh mhol, eO cI mo mof, eY cI my mdy, eP cJ mp mpd] := hD
  refine lv_iload_n hx hb dX5_pass_5 rfl (lv_at hl 1 rfl) ?_
  refine lv_iconst (v := 1) hx hb dX5_pass_6 (by decide) ?_
  refine lv_sipush (v := 400) hx hb dX5_pass_7 (by decide) ?_
  obtain ⟨v1, hv1, hf⟩ := ob hf
  refine cSz (W.runS (As := [.int a0, .int 1, .int 400]) (rest := []) ⟨hx, hb, hml, hown, hts⟩ (m_X5_isIn l D cI cJ cO a0 1 400 v1 hv1) (va_cwS 3 hts gX5_pass_X5_isIn rfl rfl rfl (by decide +kernel) ⟨(Nat.le_of_ble_eq_true rfl), (Nat.le_of_ble_eq_true rfl)⟩) ⟨pw_blind, fun U hU hW => ⟨rfl, pw_at hZ hS hP hK hU hW (Or.inr rfl) [] rfl⟩⟩ rfl rfl hl.1 rfl (lv_room (Nat.le_of_ble_eq_true rfl)) dX5_pass_10 ⟨(Nat.le_of_ble_eq_true rfl), (Nat.le_of_ble_eq_true rfl)⟩) (fun zv1 => ?_)
  refine lv_if_ne (tgt := 23) hx hb dX5_pass_13 (by decide) (fun c2 => ?_) (fun c2 => ?_)
  · have hf := ie hf c2
    refine lv_aload_n hx hb dX5_pass_23 rfl (lv_at hl 0 rfl) ?_
    refine va_get (D := D) (ci := 4) (v := .int (M 1)) (C := RX5) (T := TX5) (N := 10) hx hb hts inX5_pass_X5 hown hK hP 0 rfl rfl 1 (by decide) (hts (.fieldLink RX5 14 "BondDeskModel" "today" "I") (by decide +kernel)) (fun _ h9 => h9) rfl dX5_pass_24 ?_
    refine lv_iload_n hx hb dX5_pass_27 rfl (lv_at hl 1 rfl) ?_
    refine lv_iadd hx hb dX5_pass_28 ?_
    refine lv_ldc hx hb hown (hts (.constant RX5 73 (20661101)) (by decide +kernel)) dX5_pass_29 ?_
    obtain ⟨v3, hv3, hf⟩ := ob hf
    refine cSi (W.runS (As := [.int 20661101]) (rest := [.int ((M 1) + a0)]) ⟨hx, hb, hml, hown, hts⟩ (m_X5_number l D cI cJ cO 20661101 N v3 hv3) (va_cwS 1 hts gX5_pass_X5_number rfl rfl rfl (by decide +kernel) ⟨(Nat.le_of_ble_eq_true rfl), (Nat.le_of_ble_eq_true rfl)⟩) ⟨pw_blind, fun U hU hW => ⟨rfl, pw_at hZ hS hP hK hU hW (Or.inr rfl) [] rfl⟩⟩ rfl rfl hl.1 rfl (lv_room (Nat.le_of_ble_eq_true rfl)) dX5_pass_31 ⟨(Nat.le_of_ble_eq_true rfl), (Nat.le_of_ble_eq_true rfl)⟩) ?_
    refine lv_icmp_le (tgt := 44) hx hb dX5_pass_34 (by decide) (fun c4 => ?_) (fun c4 => ?_)
    · have hf := it hf c4
      refine lv_lconst (v := 0) hx hb dX5_pass_44 (by decide) ?_
      refine lv_lstore_n (lv' := [(2, .long 0), (0, .ref hm), (1, .int a0)]) hx hb dX5_pass_45 rfl hl (by decide) rfl (fun ls hl => ?_)
      refine lv_iconst (v := 0) hx hb dX5_pass_46 (by decide) ?_
      refine lv_istore (lv' := [(4, .int 0), (2, .long 0), (0, .ref hm), (1, .int a0)]) hx hb dX5_pass_47 hl (by decide) rfl (fun ls hl => ?_)
      obtain ⟨K11, hK11, hf⟩ := kx_s (P := fun k => f_X5_pass_L49 a0 N mhol mdy k N 0 0 (va_up M 0 (0 : Int32)) mc mof mpd = some r) hf
      have JK11 : ∀ (x12 : Int64) (w13 : Nat → Int32) (w14 : Int64) (w15 : Nat → Int32) (w16 : Nat → Int64) (H : Heap) (locs : List Loc), va_P D vwCl [eM hm mh mo my mp w13 w14, eH cI mh mhol, eO cI mo w15, eY cI my mdy, eP cJ mp w16] H → va_D A [eM hm mh mo my mp w13 w14, eH cI mh mhol, eO cI mo w15, eY cI my mdy, eP cJ mp w16] → va_S A s.heap H locs → ∀ (ls : Array Slot), lv_has ls 6 [(2, .long x12)] → K11 x12 w13 w14 w15 w16 = some r → W p l e (headSpec wsX5_pass ({ frames := 6, cells := 0, slots := 0, locals := 154 })).room s m ([.ref hm, .int a0] : List Value).toArray below meth c H locs 0 0 (MQ below (mQl D A r.1 [eM hm mh mo my mp r.2.1 r.2.2.1, eH cI mh mhol, eO cI mo r.2.2.2.1, eY cI my mdy, eP cJ mp r.2.2.2.2]) ([.ref hm, .int a0] : List Value).toArray s 0 0 A) (F0 m 145 ls []) := by
        intro x12 w13 w14 w15 w16 H locs hP hD hS ls hl hf
        rw [hK11] at hf
        refine lv_lload_n hx hb dX5_pass_145 rfl (lv_at hl 0 rfl) ?_
        refine W.widen (k := 0) (n := 0) (Nat.le_of_ble_eq_true rfl) (Nat.le_of_ble_eq_true rfl) ?_
        have e9 := Option.some.inj hf
        subst e9
        exact W.lret hx hb hr (fun t ht hW => ⟨⟨_, (), rfl, rfl, by rw [ht]; exact hP, hD⟩, hS.F ht⟩) hS.2.2 dX5_pass_146
      have LP49 : ∀ (n17 : Nat) (x5 : Int64) (x6 : Int32) (w7 : Nat → Int32) (w8 : Int64) (w9 : Nat → Int32) (w10 : Nat → Int64) (H : Heap) (locs : List Loc), va_P D vwCl [eM hm mh mo my mp w7 w8, eH cI mh mhol, eO cI mo w9, eY cI my mdy, eP cJ mp w10] H → va_D A [eM hm mh mo my mp w7 w8, eH cI mh mhol, eO cI mo w9, eY cI my mdy, eP cJ mp w10] → va_S A s.heap H locs → ∀ (ls : Array Slot), lv_has ls 6 [(0, .ref hm), (1, .int a0), (2, .long x5), (4, .int x6)] → f_X5_pass_L49 a0 N mhol mdy K11 n17 x5 x6 w7 w8 w9 w10 = some r → W p l e (headSpec wsX5_pass ({ frames := 6, cells := 0, slots := 0, locals := 154 })).room s m ([.ref hm, .int a0] : List Value).toArray below meth c H locs 0 0 (MQ below (mQl D A r.1 [eM hm mh mo my mp r.2.1 r.2.2.1, eH cI mh mhol, eO cI mo r.2.2.2.1, eY cI my mdy, eP cJ mp r.2.2.2.2]) ([.ref hm, .int a0] : List Value).toArray s 0 0 A) (F0 m 49 ls []) := by
        intro n17
        induction n17 with
        | zero => intro x5 x6 w7 w8 w9 w10 H locs hP hD hS ls hl hf; exact (no_s hf).elim
        | succ n17 ih17 =>
          intro x5 x6 w7 w8 w9 w10 H locs hP hD hS ls hl hf
          rw [f_X5_pass_L49] at hf
          refine lv_iload hx hb dX5_pass_49 (lv_at hl 3 rfl) ?_
          refine lv_iload_n hx hb dX5_pass_51 rfl (lv_at hl 1 rfl) ?_
          refine lv_icmp_ge (tgt := 145) hx hb dX5_pass_52 (by decide) (fun c18 => ?_) (fun c18 => ?_)
          · have hf := it hf c18
            exact JK11 x5 w7 w8 w9 w10 _ _ hP hD hS ls (lv_sub hl [2] rfl) hf
          · have hf := ie hf c18
            refine lv_aload_n hx hb dX5_pass_55 rfl (lv_at hl 0 rfl) ?_
            refine lv_dup hx hb dX5_pass_56 rfl ?_
            refine va_get (D := D) (ci := 4) (v := .int (w7 1)) (C := RX5) (T := TX5) (N := 10) hx hb hts inX5_pass_X5 hown hK hP 0 rfl rfl 1 (by decide) (hts (.fieldLink RX5 14 "BondDeskModel" "today" "I") (by decide +kernel)) (fun _ h9 => h9) rfl dX5_pass_57 ?_
            refine lv_iconst (v := 1) hx hb dX5_pass_60 (by decide) ?_
            refine lv_iadd hx hb dX5_pass_61 ?_
            refine lv_topi (fun x19 ex19 => ?_)
            have hf := bd_s hf ex19
            refine va_put (D := D) (ci := 4) (v := .int x19) (ty := .int) (C := RX5) (T := TX5) (N := 10) hx hb hts inX5_pass_X5 tyX5 tyX5_ok nmX5 hown hK hP hD hS 0 rfl rfl 1 (by decide) (hts (.fieldLink RX5 14 "BondDeskModel" "today" "I") (by decide +kernel)) (fun _ h9 => h9) rfl (by decide +kernel) rfl rfl (Nat.le_of_ble_eq_true rfl) dX5_pass_62 (fun H locs hP hD hS => ?_)
            have hP : va_P D vwCl [eM hm mh mo my mp (va_up w7 1 x19) w8, eH cI mh mhol, eO cI mo w9, eY cI my mdy, eP cJ mp w10] H := hP
            have hD : va_D A [eM hm mh mo my mp (va_up w7 1 x19) w8, eH cI mh mhol, eO cI mo w9, eY cI my mdy, eP cJ mp w10] := hD
            refine lv_aload_n hx hb dX5_pass_65 rfl (lv_at hl 0 rfl) ?_
            refine lv_aload_n hx hb dX5_pass_66 rfl (lv_at hl 0 rfl) ?_
            refine va_get (D := D) (ci := 4) (v := .int x19) (C := RX5) (T := TX5) (N := 10) hx hb hts inX5_pass_X5 hown hK hP 0 rfl rfl 1 (by decide) (hts (.fieldLink RX5 14 "BondDeskModel" "today" "I") (by decide +kernel)) (fun _ h9 => h9) rfl dX5_pass_67 ?_
            obtain ⟨v20, hv20, hf⟩ := ob hf
            refine cSz (W.runV (As := [.int x19]) (rest := []) ⟨hx, hb, hml, hown, hts⟩ (m_X5_isWorking l D cI cJ cO hm mh mo my mp (va_up w7 1 x19) w8 mhol w9 mdy w10 x19 N v20 hv20) (cwV 1 hts gX5_pass_X5_isWorking rfl rfl rfl (by decide +kernel) ⟨(Nat.le_of_ble_eq_true rfl), (Nat.le_of_ble_eq_true rfl)⟩) ⟨pw_blind, va_recv hK hP (ci := 4) (q0 := 0) rfl rfl, fun U hU hW => ⟨rfl, pw_at hZ hS hP hK hU hW (Or.inr rfl) [0, 1, 2, 3, 4] rfl⟩⟩ rfl rfl hl.1 rfl (lv_room (Nat.le_of_ble_eq_true rfl)) dX5_pass_70 ⟨(Nat.le_of_ble_eq_true rfl), (Nat.le_of_ble_eq_true rfl)⟩) (fun zv20 => ?_)
            refine lv_if_ne (tgt := 79) hx hb dX5_pass_73 (by decide) (fun c21 => ?_) (fun c21 => ?_)
            · have hf := ie hf c21
              refine lv_iconst (v := 0) hx hb dX5_pass_79 (by decide) ?_
              refine lv_istore (lv' := [(5, .int 0), (0, .ref hm), (1, .int a0), (2, .long x5), (4, .int x6)]) hx hb dX5_pass_80 hl (by decide) rfl (fun ls hl => ?_)
              obtain ⟨K28, hK28, hf⟩ := kx_s (P := fun k => f_X5_pass_L82 mdy N k N x5 0 (va_up w7 1 x19) w8 w9 w10 = some r) hf
              have JK28 : ∀ (x29 : Int64) (w30 : Nat → Int32) (w31 : Int64) (w32 : Nat → Int32) (w33 : Nat → Int64) (H : Heap) (locs : List Loc), va_P D vwCl [eM hm mh mo my mp w30 w31, eH cI mh mhol, eO cI mo w32, eY cI my mdy, eP cJ mp w33] H → va_D A [eM hm mh mo my mp w30 w31, eH cI mh mhol, eO cI mo w32, eY cI my mdy, eP cJ mp w33] → va_S A s.heap H locs → ∀ (ls : Array Slot), lv_has ls 6 [(0, .ref hm), (1, .int a0), (2, .long x29), (4, .int x6)] → K28 x29 w30 w31 w32 w33 = some r → W p l e (headSpec wsX5_pass ({ frames := 6, cells := 0, slots := 0, locals := 154 })).room s m ([.ref hm, .int a0] : List Value).toArray below meth c H locs 0 0 (MQ below (mQl D A r.1 [eM hm mh mo my mp r.2.1 r.2.2.1, eH cI mh mhol, eO cI mo r.2.2.2.1, eY cI my mdy, eP cJ mp r.2.2.2.2]) ([.ref hm, .int a0] : List Value).toArray s 0 0 A) (F0 m 139 ls []) := by
                intro x29 w30 w31 w32 w33 H locs hP hD hS ls hl hf
                rw [hK28] at hf
                obtain ⟨x56, ex56⟩ : ∃ y : Int32, y = x6 + 1 := ⟨_, rfl⟩
                have hf := bd_s hf ex56
                refine lv_iinc (v := x56) (lv' := [(4, .int x56), (0, .ref hm), (1, .int a0), (2, .long x29)]) hx hb dX5_pass_139 hl (k := 3) rfl (by rw [ex56]; rfl) (by decide) rfl (fun ls hl => ?_)
                refine lv_goto (tgt := 49) hx hb dX5_pass_142 (by decide) ?_
                exact ih17 x29 x56 w30 w31 w32 w33 _ _ hP hD hS ls (lv_sub hl [1, 2, 3, 0] rfl) hf
              have LP82 : ∀ (n34 : Nat) (x22 : Int64) (x23 : Int32) (w24 : Nat → Int32) (w25 : Int64) (w26 : Nat → Int32) (w27 : Nat → Int64) (H : Heap) (locs : List Loc), va_P D vwCl [eM hm mh mo my mp w24 w25, eH cI mh mhol, eO cI mo w26, eY cI my mdy, eP cJ mp w27] H → va_D A [eM hm mh mo my mp w24 w25, eH cI mh mhol, eO cI mo w26, eY cI my mdy, eP cJ mp w27] → va_S A s.heap H locs → ∀ (ls : Array Slot), lv_has ls 6 [(0, .ref hm), (1, .int a0), (2, .long x22), (4, .int x6), (5, .int x23)] → f_X5_pass_L82 mdy N K28 n34 x22 x23 w24 w25 w26 w27 = some r → W p l e (headSpec wsX5_pass ({ frames := 6, cells := 0, slots := 0, locals := 154 })).room s m ([.ref hm, .int a0] : List Value).toArray below meth c H locs 0 0 (MQ below (mQl D A r.1 [eM hm mh mo my mp r.2.1 r.2.2.1, eH cI mh mhol, eO cI mo r.2.2.2.1, eY cI my mdy, eP cJ mp r.2.2.2.2]) ([.ref hm, .int a0] : List Value).toArray s 0 0 A) (F0 m 82 ls []) := by
                intro n34
                induction n34 with
                | zero => intro x22 x23 w24 w25 w26 w27 H locs hP hD hS ls hl hf; exact (no_s hf).elim
                | succ n34 ih34 =>
                  intro x22 x23 w24 w25 w26 w27 H locs hP hD hS ls hl hf
                  rw [f_X5_pass_L82] at hf
                  refine lv_iload hx hb dX5_pass_82 (lv_at hl 4 rfl) ?_
                  refine lv_aload_n hx hb dX5_pass_84 rfl (lv_at hl 0 rfl) ?_
                  refine va_get (D := D) (ci := 4) (v := .int (w24 4)) (C := RX5) (T := TX5) (N := 10) hx hb hts inX5_pass_X5 hown hK hP 0 rfl rfl 4 (by decide) (hts (.fieldLink RX5 77 "BondDeskModel" "bonds" "I") (by decide +kernel)) (fun _ h9 => h9) rfl dX5_pass_85 ?_
                  refine lv_icmp_ge (tgt := 139) hx hb dX5_pass_88 (by decide) (fun c35 => ?_) (fun c35 => ?_)
                  · have hf := it hf c35
                    exact JK28 x22 w24 w25 w26 w27 _ _ hP hD hS ls (lv_sub hl [0, 1, 2, 3] rfl) hf
                  · have hf := ie hf c35
                    obtain ⟨K41, hK41, hf⟩ := kx_s (P := fun k => f_X5_pass_L91 x23 mdy N k N x22 w24 w25 w26 w27 = some r) hf
                    have JK41 : ∀ (x42 : Int64) (w43 : Nat → Int32) (w44 : Int64) (w45 : Nat → Int32) (w46 : Nat → Int64) (H : Heap) (locs : List Loc), va_P D vwCl [eM hm mh mo my mp w43 w44, eH cI mh mhol, eO cI mo w45, eY cI my mdy, eP cJ mp w46] H → va_D A [eM hm mh mo my mp w43 w44, eH cI mh mhol, eO cI mo w45, eY cI my mdy, eP cJ mp w46] → va_S A s.heap H locs → ∀ (ls : Array Slot), lv_has ls 6 [(0, .ref hm), (1, .int a0), (2, .long x42), (4, .int x6), (5, .int x23)] → K41 x42 w43 w44 w45 w46 = some r → W p l e (headSpec wsX5_pass ({ frames := 6, cells := 0, slots := 0, locals := 154 })).room s m ([.ref hm, .int a0] : List Value).toArray below meth c H locs 0 0 (MQ below (mQl D A r.1 [eM hm mh mo my mp r.2.1 r.2.2.1, eH cI mh mhol, eO cI mo r.2.2.2.1, eY cI my mdy, eP cJ mp r.2.2.2.2]) ([.ref hm, .int a0] : List Value).toArray s 0 0 A) (F0 m 133 ls []) := by
                      intro x42 w43 w44 w45 w46 H locs hP hD hS ls hl hf
                      rw [hK41] at hf
                      obtain ⟨x55, ex55⟩ : ∃ y : Int32, y = x23 + 1 := ⟨_, rfl⟩
                      have hf := bd_s hf ex55
                      refine lv_iinc (v := x55) (lv' := [(5, .int x55), (0, .ref hm), (1, .int a0), (2, .long x42), (4, .int x6)]) hx hb dX5_pass_133 hl (k := 4) rfl (by rw [ex55]; rfl) (by decide) rfl (fun ls hl => ?_)
                      refine lv_goto (tgt := 82) hx hb dX5_pass_136 (by decide) ?_
                      exact ih34 x42 x55 w43 w44 w45 w46 _ _ hP hD hS ls (lv_sub hl [1, 2, 3, 4, 0] rfl) hf
                    have LP91 : ∀ (n47 : Nat) (x36 : Int64) (w37 : Nat → Int32) (w38 : Int64) (w39 : Nat → Int32) (w40 : Nat → Int64) (H : Heap) (locs : List Loc), va_P D vwCl [eM hm mh mo my mp w37 w38, eH cI mh mhol, eO cI mo w39, eY cI my mdy, eP cJ mp w40] H → va_D A [eM hm mh mo my mp w37 w38, eH cI mh mhol, eO cI mo w39, eY cI my mdy, eP cJ mp w40] → va_S A s.heap H locs → ∀ (ls : Array Slot), lv_has ls 6 [(0, .ref hm), (1, .int a0), (2, .long x36), (4, .int x6), (5, .int x23)] → f_X5_pass_L91 x23 mdy N K41 n47 x36 w37 w38 w39 w40 = some r → W p l e (headSpec wsX5_pass ({ frames := 6, cells := 0, slots := 0, locals := 154 })).room s m ([.ref hm, .int a0] : List Value).toArray below meth c H locs 0 0 (MQ below (mQl D A r.1 [eM hm mh mo my mp r.2.1 r.2.2.1, eH cI mh mhol, eO cI mo r.2.2.2.1, eY cI my mdy, eP cJ mp r.2.2.2.2]) ([.ref hm, .int a0] : List Value).toArray s 0 0 A) (F0 m 91 ls []) := by
                      intro n47
                      induction n47 with
                      | zero => intro x36 w37 w38 w39 w40 H locs hP hD hS ls hl hf; exact (no_s hf).elim
                      | succ n47 ih47 =>
                        intro x36 w37 w38 w39 w40 H locs hP hD hS ls hl hf
                        rw [f_X5_pass_L91] at hf
                        refine lv_aload_n hx hb dX5_pass_91 rfl (lv_at hl 0 rfl) ?_
                        refine lv_iload hx hb dX5_pass_92 (lv_at hl 4 rfl) ?_
                        obtain ⟨v48, hv48, hf⟩ := ob hf
                        refine cSz (W.runV (As := [.int x23]) (rest := []) ⟨hx, hb, hml, hown, hts⟩ (m_X5_isThere l D cI cJ cO hm mh mo my mp w37 w38 mhol w39 mdy w40 x23 v48 hv48) (cwV 1 hts gX5_pass_X5_isThere rfl rfl rfl (by decide +kernel) ⟨(Nat.le_of_ble_eq_true rfl), (Nat.le_of_ble_eq_true rfl)⟩) ⟨pw_blind, va_recv hK hP (ci := 4) (q0 := 0) rfl rfl, fun U hU hW => ⟨rfl, pw_at hZ hS hP hK hU hW (Or.inr rfl) [0, 1, 2, 3, 4] rfl⟩⟩ rfl rfl hl.1 rfl (lv_room (Nat.le_of_ble_eq_true rfl)) dX5_pass_94 ⟨(Nat.le_of_ble_eq_true rfl), (Nat.le_of_ble_eq_true rfl)⟩) (fun zv48 => ?_)
                        refine lv_if_eq (tgt := 133) hx hb dX5_pass_97 (by decide) (fun c49 => ?_) (fun c49 => ?_)
                        · have hf := it hf c49
                          exact JK41 x36 w37 w38 w39 w40 _ _ hP hD hS ls (lv_sub hl [0, 1, 2, 3, 4] rfl) hf
                        · have hf := ie hf c49
                          refine lv_aload_n hx hb dX5_pass_100 rfl (lv_at hl 0 rfl) ?_
                          refine lv_iload hx hb dX5_pass_101 (lv_at hl 4 rfl) ?_
                          refine lv_aload_n hx hb dX5_pass_103 rfl (lv_at hl 0 rfl) ?_
                          refine lv_iload hx hb dX5_pass_104 (lv_at hl 4 rfl) ?_
                          refine lv_bipush (v := 7) hx hb dX5_pass_106 (by decide) ?_
                          obtain ⟨v50, hv50, hf⟩ := ob hf
                          refine cSi (W.runV (As := [.int x23, .int 7]) (rest := [.int x23, .ref hm]) ⟨hx, hb, hml, hown, hts⟩ (m_X5_own l D cI cJ cO hm mh mo my mp w37 w38 mhol w39 mdy w40 x23 7 v50 hv50) (cwV 2 hts gX5_pass_X5_own rfl rfl rfl (by decide +kernel) ⟨(Nat.le_of_ble_eq_true rfl), (Nat.le_of_ble_eq_true rfl)⟩) ⟨pw_blind, va_recv hK hP (ci := 4) (q0 := 0) rfl rfl, fun U hU hW => ⟨rfl, pw_at hZ hS hP hK hU hW (Or.inr rfl) [0, 1, 2, 3, 4] rfl⟩⟩ rfl rfl hl.1 rfl (lv_room (Nat.le_of_ble_eq_true rfl)) dX5_pass_108 ⟨(Nat.le_of_ble_eq_true rfl), (Nat.le_of_ble_eq_true rfl)⟩) ?_
                          obtain ⟨v51, hv51, hf⟩ := ob hf
                          refine cSi (W.runV (As := [.int x23, .int v50]) (rest := []) ⟨hx, hb, hml, hown, hts⟩ (m_X5_couponDay l D cI cJ cO hm mh mo my mp w37 w38 mhol w39 mdy w40 x23 v50 v51 hv51) (cwV 2 hts gX5_pass_X5_couponDay rfl rfl rfl (by decide +kernel) ⟨(Nat.le_of_ble_eq_true rfl), (Nat.le_of_ble_eq_true rfl)⟩) ⟨pw_blind, va_recv hK hP (ci := 4) (q0 := 0) rfl rfl, fun U hU hW => ⟨rfl, pw_at hZ hS hP hK hU hW (Or.inr rfl) [0, 1, 2, 3, 4] rfl⟩⟩ rfl rfl hl.1 rfl (lv_room (Nat.le_of_ble_eq_true rfl)) dX5_pass_111 ⟨(Nat.le_of_ble_eq_true rfl), (Nat.le_of_ble_eq_true rfl)⟩) ?_
                          refine lv_aload_n hx hb dX5_pass_114 rfl (lv_at hl 0 rfl) ?_
                          refine va_get (D := D) (ci := 4) (v := .int (w37 1)) (C := RX5) (T := TX5) (N := 10) hx hb hts inX5_pass_X5 hown hK hP 0 rfl rfl 1 (by decide) (hts (.fieldLink RX5 14 "BondDeskModel" "today" "I") (by decide +kernel)) (fun _ h9 => h9) rfl dX5_pass_115 ?_
                          refine lv_icmp_gt (tgt := 133) hx hb dX5_pass_118 (by decide) (fun c52 => ?_) (fun c52 => ?_)
                          · have hf := it hf c52
                            exact JK41 x36 w37 w38 w39 w40 _ _ hP hD hS ls (lv_sub hl [0, 1, 2, 3, 4] rfl) hf
                          · have hf := ie hf c52
                            refine lv_lload_n hx hb dX5_pass_121 rfl (lv_at hl 2 rfl) ?_
                            refine lv_aload_n hx hb dX5_pass_122 rfl (lv_at hl 0 rfl) ?_
                            refine lv_iload hx hb dX5_pass_123 (lv_at hl 4 rfl) ?_
                            obtain ⟨v53, hv53, hf⟩ := ob hf
                            have hPc := hP.sub (ws' := [eM hm mh mo my mp w37 w38, eH cI mh mhol, eO cI mo w39, eY cI my mdy, eP cJ mp w40]) [0, 1, 2, 3, 4] rfl
                            have hDc := hD.sub (ws' := [eM hm mh mo my mp w37 w38, eH cI mh mhol, eO cI mo w39, eY cI my mdy, eP cJ mp w40]) [0, 1, 2, 3, 4] (by decide) rfl
                            have hFc := va_free (wc := [eM hm mh mo my mp w37 w38, eH cI mh mhol, eO cI mo w39, eY cI my mdy, eP cJ mp w40]) hD hS hA [0, 1, 2, 3, 4] rfl
                            refine va_calll (va_runV (As := [.int x23]) (rest := [.long x36]) ⟨hx, hb, hml, hown, hts⟩ (m_X5_look l D cI cJ cO hm mh mo my mp w37 w38 mhol w39 mdy w40 H.size x23 N v53 hv53) (cwV 1 hts gX5_pass_X5_look rfl rfl rfl (by decide +kernel) ⟨(Nat.le_of_ble_eq_true rfl), (Nat.le_of_ble_eq_true rfl)⟩) ⟨mp_blind, va_recv hK hP (ci := 4) (q0 := 0) rfl rfl, fun U hU hW => ⟨rfl, mp_at hZ hS hPc hK hDc hFc hU hW (Or.inr rfl)⟩⟩ rfl rfl hl.1 rfl (lv_room (Nat.le_of_ble_eq_true rfl)) dX5_pass_125 ⟨(Nat.le_of_ble_eq_true rfl), (Nat.le_of_ble_eq_true rfl)⟩) hS (fun q _ h => hFc q h) hFc (fun rv53 u t H1 locs ht9 hvm hw hBx hz1 hk1 hS => ?_)
                            subst hw
                            obtain ⟨hP1, hD1⟩ := hBx
                            rw [ht9] at hP1
                            obtain ⟨hP, hD⟩ := va_join (wr := []) (w1 := [eM hm mh mo my mp w37 v53.2.1, eH cI mh mhol, eO cI mo v53.2.2.1, eY cI my mdy, eP cJ mp v53.2.2.2]) hP hD [0, 1, 2, 3, 4] [] rfl rfl (by decide) (by decide) hk1 hFc hP1 hD1
                            have hP := hP.sub (ws' := [eM hm mh mo my mp w37 v53.2.1, eH cI mh mhol, eO cI mo v53.2.2.1, eY cI my mdy, eP cJ mp v53.2.2.2]) [0, 1, 2, 3, 4] rfl
                            have hD := hD.sub (ws' := [eM hm mh mo my mp w37 v53.2.1, eH cI mh mhol, eO cI mo v53.2.2.1, eY cI my mdy, eP cJ mp v53.2.2.2]) [0, 1, 2, 3, 4] (by decide) rfl
                            generalize H1 = H at hP hS ⊢
                            refine lv_ladd hx hb dX5_pass_128 ?_
                            refine lv_topl (fun x54 ex54 => ?_)
                            have hf := bd_s hf ex54
                            refine lv_lstore_n (lv' := [(2, .long x54), (0, .ref hm), (1, .int a0), (4, .int x6), (5, .int x23)]) hx hb dX5_pass_129 rfl hl (by decide) rfl (fun ls hl => ?_)
                            refine lv_goto (tgt := 91) hx hb dX5_pass_130 (by decide) ?_
                            exact ih47 x54 w37 v53.2.1 v53.2.2.1 v53.2.2.2 _ _ hP hD hS ls (lv_sub hl [1, 2, 0, 3, 4] rfl) hf
                    exact LP91 N x22 w24 w25 w26 w27 _ _ hP hD hS ls (lv_sub hl [0, 1, 2, 3, 4] rfl) hf
              exact LP82 N x5 0 (va_up w7 1 x19) w8 w9 w10 _ _ hP hD hS ls (lv_sub hl [1, 2, 3, 4, 0] rfl) hf
            · have hf := it hf c21
              refine lv_goto (tgt := 139) hx hb dX5_pass_76 (by decide) ?_
              obtain ⟨x57, ex57⟩ : ∃ y : Int32, y = x6 + 1 := ⟨_, rfl⟩
              have hf := bd_s hf ex57
              refine lv_iinc (v := x57) (lv' := [(4, .int x57), (0, .ref hm), (1, .int a0), (2, .long x5)]) hx hb dX5_pass_139 hl (k := 3) rfl (by rw [ex57]; rfl) (by decide) rfl (fun ls hl => ?_)
              refine lv_goto (tgt := 49) hx hb dX5_pass_142 (by decide) ?_
              exact ih17 x5 x57 (va_up w7 1 x19) w8 w9 w10 _ _ hP hD hS ls (lv_sub hl [1, 2, 3, 0] rfl) hf
      exact LP49 N 0 0 (va_up M 0 (0 : Int32)) mc mof mpd _ _ hP hD hS ls (lv_sub hl [2, 3, 1, 0] rfl) hf
    · have hf := ie hf c4
      refine lv_aload_n hx hb dX5_pass_37 rfl (lv_at hl 0 rfl) ?_
      refine lv_iconst (v := 2) hx hb dX5_pass_38 (by decide) ?_
      obtain ⟨v58, hv58, hf⟩ := ob hf
      have hPc := hP.sub (ws' := [eM hm mh mo my mp (va_up M 0 (0 : Int32)) mc, eH cI mh mhol, eO cI mo mof, eY cI my mdy, eP cJ mp mpd]) [0, 1, 2, 3, 4] rfl
      have hDc := hD.sub (ws' := [eM hm mh mo my mp (va_up M 0 (0 : Int32)) mc, eH cI mh mhol, eO cI mo mof, eY cI my mdy, eP cJ mp mpd]) [0, 1, 2, 3, 4] (by decide) rfl
      have hFc := va_free (wc := [eM hm mh mo my mp (va_up M 0 (0 : Int32)) mc, eH cI mh mhol, eO cI mo mof, eY cI my mdy, eP cJ mp mpd]) hD hS hA [0, 1, 2, 3, 4] rfl
      refine va_calli (va_runV (As := [.int 2]) (rest := []) ⟨hx, hb, hml, hown, hts⟩ (m_X5_no l D cI cJ cO hm mh mo my mp (va_up M 0 (0 : Int32)) mc mhol mof mdy mpd H.size 2 v58 hv58) (cwV 1 hts gX5_pass_X5_no rfl rfl rfl (by decide +kernel) ⟨(Nat.le_of_ble_eq_true rfl), (Nat.le_of_ble_eq_true rfl)⟩) ⟨mp_blind, va_recv hK hP (ci := 4) (q0 := 0) rfl rfl, fun U hU hW => ⟨rfl, mp_at hZ hS hPc hK hDc hFc hU hW (Or.inr rfl)⟩⟩ rfl rfl hl.1 rfl (lv_room (Nat.le_of_ble_eq_true rfl)) dX5_pass_39 ⟨(Nat.le_of_ble_eq_true rfl), (Nat.le_of_ble_eq_true rfl)⟩) hS (fun q _ h => hFc q h) hFc (fun rv58 u t H1 locs ht9 hvm hw hBx hz1 hk1 hS => ?_)
      subst hw
      obtain ⟨hP1, hD1⟩ := hBx
      rw [ht9] at hP1
      obtain ⟨hP, hD⟩ := va_join (wr := []) (w1 := [eM hm mh mo my mp v58.2 mc, eH cI mh mhol, eO cI mo mof, eY cI my mdy, eP cJ mp mpd]) hP hD [0, 1, 2, 3, 4] [] rfl rfl (by decide) (by decide) hk1 hFc hP1 hD1
      have hP := hP.sub (ws' := [eM hm mh mo my mp v58.2 mc, eH cI mh mhol, eO cI mo mof, eY cI my mdy, eP cJ mp mpd]) [0, 1, 2, 3, 4] rfl
      have hD := hD.sub (ws' := [eM hm mh mo my mp v58.2 mc, eH cI mh mhol, eO cI mo mof, eY cI my mdy, eP cJ mp mpd]) [0, 1, 2, 3, 4] (by decide) rfl
      generalize H1 = H at hP hS ⊢
      refine lv_i2l hx hb dX5_pass_42 rfl ?_
      refine W.widen (k := 0) (n := 0) (Nat.le_of_ble_eq_true rfl) (Nat.le_of_ble_eq_true rfl) ?_
      have e9 := Option.some.inj hf
      subst e9
      exact W.lret hx hb hr (fun t ht hW => ⟨⟨_, (), rfl, rfl, by rw [ht]; exact hP, hD⟩, hS.F ht⟩) hS.2.2 dX5_pass_43
  · have hf := it hf c2
    refine lv_aload_n hx hb dX5_pass_16 rfl (lv_at hl 0 rfl) ?_
    refine lv_iconst (v := 1) hx hb dX5_pass_17 (by decide) ?_
    obtain ⟨v59, hv59, hf⟩ := ob hf
    have hPc := hP.sub (ws' := [eM hm mh mo my mp (va_up M 0 (0 : Int32)) mc, eH cI mh mhol, eO cI mo mof, eY cI my mdy, eP cJ mp mpd]) [0, 1, 2, 3, 4] rfl
    have hDc := hD.sub (ws' := [eM hm mh mo my mp (va_up M 0 (0 : Int32)) mc, eH cI mh mhol, eO cI mo mof, eY cI my mdy, eP cJ mp mpd]) [0, 1, 2, 3, 4] (by decide) rfl
    have hFc := va_free (wc := [eM hm mh mo my mp (va_up M 0 (0 : Int32)) mc, eH cI mh mhol, eO cI mo mof, eY cI my mdy, eP cJ mp mpd]) hD hS hA [0, 1, 2, 3, 4] rfl
    refine va_calli (va_runV (As := [.int 1]) (rest := []) ⟨hx, hb, hml, hown, hts⟩ (m_X5_no l D cI cJ cO hm mh mo my mp (va_up M 0 (0 : Int32)) mc mhol mof mdy mpd H.size 1 v59 hv59) (cwV 1 hts gX5_pass_X5_no rfl rfl rfl (by decide +kernel) ⟨(Nat.le_of_ble_eq_true rfl), (Nat.le_of_ble_eq_true rfl)⟩) ⟨mp_blind, va_recv hK hP (ci := 4) (q0 := 0) rfl rfl, fun U hU hW => ⟨rfl, mp_at hZ hS hPc hK hDc hFc hU hW (Or.inr rfl)⟩⟩ rfl rfl hl.1 rfl (lv_room (Nat.le_of_ble_eq_true rfl)) dX5_pass_18 ⟨(Nat.le_of_ble_eq_true rfl), (Nat.le_of_ble_eq_true rfl)⟩) hS (fun q _ h => hFc q h) hFc (fun rv59 u t H1 locs ht9 hvm hw hBx hz1 hk1 hS => ?_)
    subst hw
    obtain ⟨hP1, hD1⟩ := hBx
    rw [ht9] at hP1
    obtain ⟨hP, hD⟩ := va_join (wr := []) (w1 := [eM hm mh mo my mp v59.2 mc, eH cI mh mhol, eO cI mo mof, eY cI my mdy, eP cJ mp mpd]) hP hD [0, 1, 2, 3, 4] [] rfl rfl (by decide) (by decide) hk1 hFc hP1 hD1
    have hP := hP.sub (ws' := [eM hm mh mo my mp v59.2 mc, eH cI mh mhol, eO cI mo mof, eY cI my mdy, eP cJ mp mpd]) [0, 1, 2, 3, 4] rfl
    have hD := hD.sub (ws' := [eM hm mh mo my mp v59.2 mc, eH cI mh mhol, eO cI mo mof, eY cI my mdy, eP cJ mp mpd]) [0, 1, 2, 3, 4] (by decide) rfl
    generalize H1 = H at hP hS ⊢
    refine lv_i2l hx hb dX5_pass_21 rfl ?_
    refine W.widen (k := 0) (n := 0) (Nat.le_of_ble_eq_true rfl) (Nat.le_of_ble_eq_true rfl) ?_
    have e9 := Option.some.inj hf
    subst e9
    exact W.lret hx hb hr (fun t ht hW => ⟨⟨_, (), rfl, rfl, by rw [ht]; exact hP, hD⟩, hS.F ht⟩) hS.2.2 dX5_pass_22
theorem inX5_count_X5 : ∀ w ∈ wsX50, w ∈ wsX5_count := by decide +kernel
set_option maxHeartbeats 4000000 in
set_option maxRecDepth 100000 in
theorem m_X5_count (l : Launch) (D : va_G) (cI cJ cO : ClassId) (hm : Nat) (mh : Nat) (mo : Nat) (my : Nat) (mp : Nat) (M : Nat → Int32) (mc : Int64) (mhol : Nat → Int32) (mof : Nat → Int32) (mdy : Nat → Int32) (mpd : Nat → Int64) (sz : Nat) (a0 : Int32) (N : Nat) (r : Int64 × (Nat → Int32)) (hf : f_X5_count N M mc mof mdy mpd a0 = some r) : Met l yX5_count wsX5_count ({ frames := 7, cells := 0, slots := 0, locals := 179 }) (va_Pc [.ref hm, .int a0] (mP D (ty3 cI cJ cO) none [eM hm mh mo my mp M mc, eH cI mh mhol, eO cI mo mof, eY cI my mdy, eP cJ mp mpd] sz)) (mQl D (va_A [eM hm mh mo my mp M mc, eH cI mh mhol, eO cI mo mof, eY cI my mdy, eP cJ mp mpd] sz) r.1 [eM hm mh mo my mp r.2 mc, eH cI mh mhol, eO cI mo mof, eY cI my mdy, eP cJ mp mpd]) 0 0 (va_A [eM hm mh mo my mp M mc, eH cI mh mhol, eO cI mo mof, eY cI my mdy, eP cJ mp mpd] sz) := by
  refine Met.ofW (cc := cX5_count) (maxL := 2) (ret := (some .long)) (by decide) rfl ?_
  intro p e s m args below meth c s₁ Bd hml hv
  obtain ⟨rfl, hsz, hZ, hP, hK, hD0⟩ := hv
  have hx := Bd.exec
  have hb := Bd.bytes
  have hr := Bd.returns
  have hts := atoms_spec (ws := wsX5_count) Bd.pre
  have hown : s.vm.findClass RX5 = some m.cls := findClass_of_methodNamed Bd.named
  have hlocks := Bd.notSynchronized
  subst hsz
  have hD := hD0.self (sz := s.heap.size)
  generalize hAe : va_A [eM hm mh mo my mp M mc, eH cI mh mhol, eO cI mo mof, eY cI my mdy, eP cJ mp mpd] s.heap.size = A at hD hZ ⊢
  have hA : ∀ q : Nat, s.heap.size ≤ q → A q := fun q h => by rw [← hAe]; exact Or.inr h
  have hS : va_S A s.heap s.heap [] := va_S.rf
  have hl := lv_entry ([.ref hm, .int a0]) (n := 2) (Nat.le_of_ble_eq_true rfl)
  rw [lg_entry_eq]
  generalize (lg_sl ([.ref hm, .int a0]) ++ List.replicate (2 - (lg_sl ([.ref hm, .int a0])).length) Slot.unset).toArray = ls at hl ⊢
  have hl : lv_has ls 2 [(0, .ref hm), (1, .int a0)] := hl
  unfold f_X5_count at hf
  refine lv_aload_n hx hb dX5_count_0 rfl (lv_at hl 0 rfl) ?_
  refine lv_iconst (v := 0) hx hb dX5_count_1 (by decide) ?_
  refine va_put (D := D) (ci := 4) (v := .int 0) (ty := .int) (C := RX5) (T := TX5) (N := 10) hx hb hts inX5_count_X5 tyX5 tyX5_ok nmX5 hown hK hP hD hS 0 rfl rfl 0 (by decide) (hts (.fieldLink RX5 41 "BondDeskModel" "thrown" "I") (by decide +kernel)) (fun _ h9 => h9) rfl (by decide +kernel) rfl rfl (Nat.le_of_ble_eq_true rfl) dX5_count_2 (fun H locs hP hD hS => ?_)
  have hP : va_P D vwCl [eM hm mh mo my mp (va_up M 0 (0 : Int32)) mc, eH cI mh mhol, eO cI mo mof, eY cI my mdy, eP cJ mp mpd] H := hP
  have hD : va_D A [eM hm mh mo my mp (va_up M 0 (0 : Int32)) mc, eH cI mh mhol, eO cI mo mof, eY cI my mdy, eP cJ mp mpd] := hD
  refine lv_iload_n hx hb dX5_count_5 rfl (lv_at hl 1 rfl) ?_
  refine lv_iconst (v := 0) hx hb dX5_count_6 (by decide) ?_
  refine lv_bipush (v := 11) hx hb dX5_count_7 (by decide) ?_
  obtain ⟨v1, hv1, hf⟩ := ob hf
  refine cSz (W.runS (As := [.int a0, .int 0, .int 11]) (rest := []) ⟨hx, hb, hml, hown, hts⟩ (m_X5_isIn l D cI cJ cO a0 0 11 v1 hv1) (va_cwS 3 hts gX5_count_X5_isIn rfl rfl rfl (by decide +kernel) ⟨(Nat.le_of_ble_eq_true rfl), (Nat.le_of_ble_eq_true rfl)⟩) ⟨pw_blind, fun U hU hW => ⟨rfl, pw_at hZ hS hP hK hU hW (Or.inr rfl) [] rfl⟩⟩ rfl rfl hl.1 rfl (lv_room (Nat.le_of_ble_eq_true rfl)) dX5_count_9 ⟨(Nat.le_of_ble_eq_true rfl), (Nat.le_of_ble_eq_true rfl)⟩) (fun zv1 => ?_)
  refine lv_if_eq (tgt := 23) hx hb dX5_count_12 (by decide) (fun c2 => ?_) (fun c2 => ?_)
  · have hf := it hf c2
    refine lv_aload_n hx hb dX5_count_23 rfl (lv_at hl 0 rfl) ?_
    refine lv_iconst (v := 1) hx hb dX5_count_24 (by decide) ?_
    obtain ⟨v3, hv3, hf⟩ := ob hf
    have hPc := hP.sub (ws' := [eM hm mh mo my mp (va_up M 0 (0 : Int32)) mc, eH cI mh mhol, eO cI mo mof, eY cI my mdy, eP cJ mp mpd]) [0, 1, 2, 3, 4] rfl
    have hDc := hD.sub (ws' := [eM hm mh mo my mp (va_up M 0 (0 : Int32)) mc, eH cI mh mhol, eO cI mo mof, eY cI my mdy, eP cJ mp mpd]) [0, 1, 2, 3, 4] (by decide) rfl
    have hFc := va_free (wc := [eM hm mh mo my mp (va_up M 0 (0 : Int32)) mc, eH cI mh mhol, eO cI mo mof, eY cI my mdy, eP cJ mp mpd]) hD hS hA [0, 1, 2, 3, 4] rfl
    refine va_calli (va_runV (As := [.int 1]) (rest := []) ⟨hx, hb, hml, hown, hts⟩ (m_X5_no l D cI cJ cO hm mh mo my mp (va_up M 0 (0 : Int32)) mc mhol mof mdy mpd H.size 1 v3 hv3) (cwV 1 hts gX5_count_X5_no rfl rfl rfl (by decide +kernel) ⟨(Nat.le_of_ble_eq_true rfl), (Nat.le_of_ble_eq_true rfl)⟩) ⟨mp_blind, va_recv hK hP (ci := 4) (q0 := 0) rfl rfl, fun U hU hW => ⟨rfl, mp_at hZ hS hPc hK hDc hFc hU hW (Or.inr rfl)⟩⟩ rfl rfl hl.1 rfl (lv_room (Nat.le_of_ble_eq_true rfl)) dX5_count_25 ⟨(Nat.le_of_ble_eq_true rfl), (Nat.le_of_ble_eq_true rfl)⟩) hS (fun q _ h => hFc q h) hFc (fun rv3 u t H1 locs ht9 hvm hw hBx hz1 hk1 hS => ?_)
    subst hw
    obtain ⟨hP1, hD1⟩ := hBx
    rw [ht9] at hP1
    obtain ⟨hP, hD⟩ := va_join (wr := []) (w1 := [eM hm mh mo my mp v3.2 mc, eH cI mh mhol, eO cI mo mof, eY cI my mdy, eP cJ mp mpd]) hP hD [0, 1, 2, 3, 4] [] rfl rfl (by decide) (by decide) hk1 hFc hP1 hD1
    have hP := hP.sub (ws' := [eM hm mh mo my mp v3.2 mc, eH cI mh mhol, eO cI mo mof, eY cI my mdy, eP cJ mp mpd]) [0, 1, 2, 3, 4] rfl
    have hD := hD.sub (ws' := [eM hm mh mo my mp v3.2 mc, eH cI mh mhol, eO cI mo mof, eY cI my mdy, eP cJ mp mpd]) [0, 1, 2, 3, 4] (by decide) rfl
    generalize H1 = H at hP hS ⊢
    refine lv_i2l hx hb dX5_count_28 rfl ?_
    refine W.widen (k := 0) (n := 0) (Nat.le_of_ble_eq_true rfl) (Nat.le_of_ble_eq_true rfl) ?_
    have e9 := Option.some.inj hf
    subst e9
    exact W.lret hx hb hr (fun t ht hW => ⟨⟨_, (), rfl, rfl, by rw [ht]; exact hP, hD⟩, hS.F ht⟩) hS.2.2 dX5_count_29
  · have hf := ie hf c2
    refine lv_aload_n hx hb dX5_count_15 rfl (lv_at hl 0 rfl) ?_
    refine lv_iload_n hx hb dX5_count_16 rfl (lv_at hl 1 rfl) ?_
    obtain ⟨v4, hv4, hf⟩ := ob hf
    refine cSl (W.runV (As := [.int a0]) (rest := []) ⟨hx, hb, hml, hown, hts⟩ (m_X5_counted l D cI cJ cO hm mh mo my mp (va_up M 0 (0 : Int32)) mc mhol mof mdy mpd a0 N v4 hv4) (cwV 1 hts gX5_count_X5_counted rfl rfl rfl (by decide +kernel) ⟨(Nat.le_of_ble_eq_true rfl), (Nat.le_of_ble_eq_true rfl)⟩) ⟨pw_blind, va_recv hK hP (ci := 4) (q0 := 0) rfl rfl, fun U hU hW => ⟨rfl, pw_at hZ hS hP hK hU hW (Or.inr rfl) [0, 1, 2, 3, 4] rfl⟩⟩ rfl rfl hl.1 rfl (lv_room (Nat.le_of_ble_eq_true rfl)) dX5_count_17 ⟨(Nat.le_of_ble_eq_true rfl), (Nat.le_of_ble_eq_true rfl)⟩) ?_
    refine lv_goto (tgt := 29) hx hb dX5_count_20 (by decide) ?_
    refine W.widen (k := 0) (n := 0) (Nat.le_of_ble_eq_true rfl) (Nat.le_of_ble_eq_true rfl) ?_
    have e9 := Option.some.inj hf
    subst e9
    exact W.lret hx hb hr (fun t ht hW => ⟨⟨_, (), rfl, rfl, by rw [ht]; exact hP, hD⟩, hS.F ht⟩) hS.2.2 dX5_count_29
theorem inX5_paysIn_X5 : ∀ w ∈ wsX50, w ∈ wsX5_paysIn := by decide +kernel
set_option maxHeartbeats 4000000 in
set_option maxRecDepth 100000 in
theorem m_X5_paysIn (l : Launch) (D : va_G) (cI cJ cO : ClassId) (hm : Nat) (mh : Nat) (mo : Nat) (my : Nat) (mp : Nat) (M : Nat → Int32) (mc : Int64) (mhol : Nat → Int32) (mof : Nat → Int32) (mdy : Nat → Int32) (mpd : Nat → Int64) (sz : Nat) (a0 : Int32) (N : Nat) (r : Int64 × (Nat → Int32)) (hf : f_X5_paysIn N M mof mdy a0 = some r) : Met l yX5_paysIn wsX5_paysIn ({ frames := 4, cells := 0, slots := 0, locals := 95 }) (va_Pc [.ref hm, .int a0] (mP D (ty3 cI cJ cO) none [eM hm mh mo my mp M mc, eH cI mh mhol, eO cI mo mof, eY cI my mdy, eP cJ mp mpd] sz)) (mQl D (va_A [eM hm mh mo my mp M mc, eH cI mh mhol, eO cI mo mof, eY cI my mdy, eP cJ mp mpd] sz) r.1 [eM hm mh mo my mp r.2 mc, eH cI mh mhol, eO cI mo mof, eY cI my mdy, eP cJ mp mpd]) 0 0 (va_A [eM hm mh mo my mp M mc, eH cI mh mhol, eO cI mo mof, eY cI my mdy, eP cJ mp mpd] sz) := by
  refine Met.ofW (cc := cX5_paysIn) (maxL := 8) (ret := (some .long)) (by decide) rfl ?_
  intro p e s m args below meth c s₁ Bd hml hv
  obtain ⟨rfl, hsz, hZ, hP, hK, hD0⟩ := hv
  have hx := Bd.exec
  have hb := Bd.bytes
  have hr := Bd.returns
  have hts := atoms_spec (ws := wsX5_paysIn) Bd.pre
  have hown : s.vm.findClass RX5 = some m.cls := findClass_of_methodNamed Bd.named
  have hlocks := Bd.notSynchronized
  subst hsz
  have hD := hD0.self (sz := s.heap.size)
  generalize hAe : va_A [eM hm mh mo my mp M mc, eH cI mh mhol, eO cI mo mof, eY cI my mdy, eP cJ mp mpd] s.heap.size = A at hD hZ ⊢
  have hA : ∀ q : Nat, s.heap.size ≤ q → A q := fun q h => by rw [← hAe]; exact Or.inr h
  have hS : va_S A s.heap s.heap [] := va_S.rf
  have hl := lv_entry ([.ref hm, .int a0]) (n := 8) (Nat.le_of_ble_eq_true rfl)
  rw [lg_entry_eq]
  generalize (lg_sl ([.ref hm, .int a0]) ++ List.replicate (8 - (lg_sl ([.ref hm, .int a0])).length) Slot.unset).toArray = ls at hl ⊢
  have hl : lv_has ls 8 [(0, .ref hm), (1, .int a0)] := hl
  unfold f_X5_paysIn at hf
  refine lv_aload_n hx hb dX5_paysIn_0 rfl (lv_at hl 0 rfl) ?_
  refine lv_iconst (v := 0) hx hb dX5_paysIn_1 (by decide) ?_
  refine va_put (D := D) (ci := 4) (v := .int 0) (ty := .int) (C := RX5) (T := TX5) (N := 10) hx hb hts inX5_paysIn_X5 tyX5 tyX5_ok nmX5 hown hK hP hD hS 0 rfl rfl 0 (by decide) (hts (.fieldLink RX5 41 "BondDeskModel" "thrown" "I") (by decide +kernel)) (fun _ h9 => h9) rfl (by decide +kernel) rfl rfl (Nat.le_of_ble_eq_true rfl) dX5_paysIn_2 (fun H locs hP hD hS => ?_)
  have hP : va_P D vwCl [eM hm mh mo my mp (va_up M 0 (0 : Int32)) mc, eH cI mh mhol, eO cI mo mof, eY cI my mdy, eP cJ mp mpd] H := hP
  have hD : va_D A [eM hm mh mo my mp (va_up M 0 (0 : Int32)) mc, eH cI mh mhol, eO cI mo mof, eY cI my mdy, eP cJ mp mpd] := hD
  refine lv_iload_n hx hb dX5_paysIn_5 rfl (lv_at hl 1 rfl) ?_
  refine lv_sipush (v := 2016) hx hb dX5_paysIn_6 (by decide) ?_
  refine lv_sipush (v := 2066) hx hb dX5_paysIn_9 (by decide) ?_
  obtain ⟨v1, hv1, hf⟩ := ob hf
  refine cSz (W.runS (As := [.int a0, .int 2016, .int 2066]) (rest := []) ⟨hx, hb, hml, hown, hts⟩ (m_X5_isIn l D cI cJ cO a0 2016 2066 v1 hv1) (va_cwS 3 hts gX5_paysIn_X5_isIn rfl rfl rfl (by decide +kernel) ⟨(Nat.le_of_ble_eq_true rfl), (Nat.le_of_ble_eq_true rfl)⟩) ⟨pw_blind, fun U hU hW => ⟨rfl, pw_at hZ hS hP hK hU hW (Or.inr rfl) [] rfl⟩⟩ rfl rfl hl.1 rfl (lv_room (Nat.le_of_ble_eq_true rfl)) dX5_paysIn_12 ⟨(Nat.le_of_ble_eq_true rfl), (Nat.le_of_ble_eq_true rfl)⟩) (fun zv1 => ?_)
  refine lv_if_ne (tgt := 25) hx hb dX5_paysIn_15 (by decide) (fun c2 => ?_) (fun c2 => ?_)
  · have hf := ie hf c2
    refine lv_lconst (v := 0) hx hb dX5_paysIn_25 (by decide) ?_
    refine lv_lstore_n (lv' := [(2, .long 0), (0, .ref hm), (1, .int a0)]) hx hb dX5_paysIn_26 rfl hl (by decide) rfl (fun ls hl => ?_)
    refine lv_iconst (v := 0) hx hb dX5_paysIn_27 (by decide) ?_
    refine lv_istore (lv' := [(4, .int 0), (2, .long 0), (0, .ref hm), (1, .int a0)]) hx hb dX5_paysIn_28 hl (by decide) rfl (fun ls hl => ?_)
    have LP30 : ∀ (n5 : Nat) (x3 : Int64) (x4 : Int32) (ls : Array Slot), lv_has ls 8 [(0, .ref hm), (1, .int a0), (2, .long x3), (4, .int x4)] → f_X5_paysIn_L30 M mof N mdy a0 n5 x3 x4 = some r → W p l e (headSpec wsX5_paysIn ({ frames := 4, cells := 0, slots := 0, locals := 95 })).room s m ([.ref hm, .int a0] : List Value).toArray below meth c H locs 0 0 (MQ below (mQl D A r.1 [eM hm mh mo my mp r.2 mc, eH cI mh mhol, eO cI mo mof, eY cI my mdy, eP cJ mp mpd]) ([.ref hm, .int a0] : List Value).toArray s 0 0 A) (F0 m 30 ls []) := by
      intro n5
      induction n5 with
      | zero => intro x3 x4 ls hl hf; exact (no_s hf).elim
      | succ n5 ih5 =>
        intro x3 x4 ls hl hf
        rw [f_X5_paysIn_L30] at hf
        refine lv_iload hx hb dX5_paysIn_30 (lv_at hl 3 rfl) ?_
        refine lv_aload_n hx hb dX5_paysIn_32 rfl (lv_at hl 0 rfl) ?_
        refine va_get (D := D) (ci := 4) (v := .int (M 4)) (C := RX5) (T := TX5) (N := 10) hx hb hts inX5_paysIn_X5 hown hK hP 0 rfl rfl 4 (by decide) (hts (.fieldLink RX5 77 "BondDeskModel" "bonds" "I") (by decide +kernel)) (fun _ h9 => h9) rfl dX5_paysIn_33 ?_
        refine lv_icmp_ge (tgt := 212) hx hb dX5_paysIn_36 (by decide) (fun c6 => ?_) (fun c6 => ?_)
        · have hf := it hf c6
          refine lv_lload_n hx hb dX5_paysIn_212 rfl (lv_at hl 2 rfl) ?_
          refine W.widen (k := 0) (n := 0) (Nat.le_of_ble_eq_true rfl) (Nat.le_of_ble_eq_true rfl) ?_
          have e9 := Option.some.inj hf
          subst e9
          exact W.lret hx hb hr (fun t ht hW => ⟨⟨_, (), rfl, rfl, by rw [ht]; exact hP, hD⟩, hS.F ht⟩) hS.2.2 dX5_paysIn_213
        · have hf := ie hf c6
          refine lv_aload_n hx hb dX5_paysIn_39 rfl (lv_at hl 0 rfl) ?_
          refine lv_iload hx hb dX5_paysIn_40 (lv_at hl 3 rfl) ?_
          refine lv_bipush (v := 9) hx hb dX5_paysIn_42 (by decide) ?_
          obtain ⟨v7, hv7, hf⟩ := ob hf
          refine cSi (W.runV (As := [.int x4, .int 9]) (rest := []) ⟨hx, hb, hml, hown, hts⟩ (m_X5_own l D cI cJ cO hm mh mo my mp (va_up M 0 (0 : Int32)) mc mhol mof mdy mpd x4 9 v7 hv7) (cwV 2 hts gX5_paysIn_X5_own rfl rfl rfl (by decide +kernel) ⟨(Nat.le_of_ble_eq_true rfl), (Nat.le_of_ble_eq_true rfl)⟩) ⟨pw_blind, va_recv hK hP (ci := 4) (q0 := 0) rfl rfl, fun U hU hW => ⟨rfl, pw_at hZ hS hP hK hU hW (Or.inr rfl) [0, 1, 2, 3, 4] rfl⟩⟩ rfl rfl hl.1 rfl (lv_room (Nat.le_of_ble_eq_true rfl)) dX5_paysIn_44 ⟨(Nat.le_of_ble_eq_true rfl), (Nat.le_of_ble_eq_true rfl)⟩) ?_
          refine lv_if_ne (tgt := 53) hx hb dX5_paysIn_47 (by decide) (fun c8 => ?_) (fun c8 => ?_)
          · have hf := ie hf c8
            refine lv_aload_n hx hb dX5_paysIn_53 rfl (lv_at hl 0 rfl) ?_
            refine lv_iload hx hb dX5_paysIn_54 (lv_at hl 3 rfl) ?_
            refine lv_iconst (v := 5) hx hb dX5_paysIn_56 (by decide) ?_
            obtain ⟨v9, hv9, hf⟩ := ob hf
            refine cSi (W.runV (As := [.int x4, .int 5]) (rest := []) ⟨hx, hb, hml, hown, hts⟩ (m_X5_own l D cI cJ cO hm mh mo my mp (va_up M 0 (0 : Int32)) mc mhol mof mdy mpd x4 5 v9 hv9) (cwV 2 hts gX5_paysIn_X5_own rfl rfl rfl (by decide +kernel) ⟨(Nat.le_of_ble_eq_true rfl), (Nat.le_of_ble_eq_true rfl)⟩) ⟨pw_blind, va_recv hK hP (ci := 4) (q0 := 0) rfl rfl, fun U hU hW => ⟨rfl, pw_at hZ hS hP hK hU hW (Or.inr rfl) [0, 1, 2, 3, 4] rfl⟩⟩ rfl rfl hl.1 rfl (lv_room (Nat.le_of_ble_eq_true rfl)) dX5_paysIn_57 ⟨(Nat.le_of_ble_eq_true rfl), (Nat.le_of_ble_eq_true rfl)⟩) ?_
            refine lv_istore (lv' := [(5, .int v9), (0, .ref hm), (1, .int a0), (2, .long x3), (4, .int x4)]) hx hb dX5_paysIn_60 hl (by decide) rfl (fun ls hl => ?_)
            refine lv_aload_n hx hb dX5_paysIn_62 rfl (lv_at hl 1 rfl) ?_
            refine lv_iload hx hb dX5_paysIn_63 (lv_at hl 4 rfl) ?_
            refine lv_aload_n hx hb dX5_paysIn_65 rfl (lv_at hl 1 rfl) ?_
            refine va_get (D := D) (ci := 4) (v := .int (M 1)) (C := RX5) (T := TX5) (N := 10) hx hb hts inX5_paysIn_X5 hown hK hP 0 rfl rfl 1 (by decide) (hts (.fieldLink RX5 14 "BondDeskModel" "today" "I") (by decide +kernel)) (fun _ h9 => h9) rfl dX5_paysIn_66 ?_
            obtain ⟨v10, hv10, hf⟩ := ob hf
            refine cSi (W.runV (As := [.int x4, .int (M 1)]) (rest := []) ⟨hx, hb, hml, hown, hts⟩ (m_X5_behind l D cI cJ cO hm mh mo my mp (va_up M 0 (0 : Int32)) mc mhol mof mdy mpd x4 (M 1) N v10 hv10) (cwV 2 hts gX5_paysIn_X5_behind rfl rfl rfl (by decide +kernel) ⟨(Nat.le_of_ble_eq_true rfl), (Nat.le_of_ble_eq_true rfl)⟩) ⟨pw_blind, va_recv hK hP (ci := 4) (q0 := 0) rfl rfl, fun U hU hW => ⟨rfl, pw_at hZ hS hP hK hU hW (Or.inr rfl) [0, 1, 2, 3, 4] rfl⟩⟩ rfl rfl hl.1 rfl (lv_room (Nat.le_of_ble_eq_true rfl)) dX5_paysIn_69 ⟨(Nat.le_of_ble_eq_true rfl), (Nat.le_of_ble_eq_true rfl)⟩) ?_
            refine lv_istore (lv' := [(6, .int v10), (5, .int v9), (0, .ref hm), (1, .int a0), (2, .long x3), (4, .int x4)]) hx hb dX5_paysIn_72 hl (by decide) rfl (fun ls hl => ?_)
            obtain ⟨K14, hK14, hf⟩ := kx_s (P := fun k => f_X5_paysIn_L74 mof x4 mdy N a0 k N x3 v9 v10 = some r) hf
            have JK14 : ∀ (x15 : Int64) (ls : Array Slot), lv_has ls 8 [(0, .ref hm), (1, .int a0), (2, .long x15), (4, .int x4)] → K14 x15 = some r → W p l e (headSpec wsX5_paysIn ({ frames := 4, cells := 0, slots := 0, locals := 95 })).room s m ([.ref hm, .int a0] : List Value).toArray below meth c H locs 0 0 (MQ below (mQl D A r.1 [eM hm mh mo my mp r.2 mc, eH cI mh mhol, eO cI mo mof, eY cI my mdy, eP cJ mp mpd]) ([.ref hm, .int a0] : List Value).toArray s 0 0 A) (F0 m 206 ls []) := by
              intro x15 ls hl hf
              rw [hK14] at hf
              obtain ⟨x37, ex37⟩ : ∃ y : Int32, y = x4 + 1 := ⟨_, rfl⟩
              have hf := bd_s hf ex37
              refine lv_iinc (v := x37) (lv' := [(4, .int x37), (0, .ref hm), (1, .int a0), (2, .long x15)]) hx hb dX5_paysIn_206 hl (k := 3) rfl (by rw [ex37]; rfl) (by decide) rfl (fun ls hl => ?_)
              refine lv_goto (tgt := 30) hx hb dX5_paysIn_209 (by decide) ?_
              exact ih5 x15 x37 ls (lv_sub hl [1, 2, 3, 0] rfl) hf
            have LP74 : ∀ (n16 : Nat) (x11 : Int64) (x12 : Int32) (x13 : Int32) (ls : Array Slot), lv_has ls 8 [(0, .ref hm), (1, .int a0), (2, .long x11), (4, .int x4), (5, .int x12), (6, .int x13)] → f_X5_paysIn_L74 mof x4 mdy N a0 K14 n16 x11 x12 x13 = some r → W p l e (headSpec wsX5_paysIn ({ frames := 4, cells := 0, slots := 0, locals := 95 })).room s m ([.ref hm, .int a0] : List Value).toArray below meth c H locs 0 0 (MQ below (mQl D A r.1 [eM hm mh mo my mp r.2 mc, eH cI mh mhol, eO cI mo mof, eY cI my mdy, eP cJ mp mpd]) ([.ref hm, .int a0] : List Value).toArray s 0 0 A) (F0 m 74 ls []) := by
              intro n16
              induction n16 with
              | zero => intro x11 x12 x13 ls hl hf; exact (no_s hf).elim
              | succ n16 ih16 =>
                intro x11 x12 x13 ls hl hf
                rw [f_X5_paysIn_L74] at hf
                refine lv_iload hx hb dX5_paysIn_74 (lv_at hl 5 rfl) ?_
                refine lv_aload_n hx hb dX5_paysIn_76 rfl (lv_at hl 0 rfl) ?_
                refine lv_iload hx hb dX5_paysIn_77 (lv_at hl 3 rfl) ?_
                refine lv_bipush (v := 6) hx hb dX5_paysIn_79 (by decide) ?_
                obtain ⟨v17, hv17, hf⟩ := ob hf
                refine cSi (W.runV (As := [.int x4, .int 6]) (rest := [.int x13]) ⟨hx, hb, hml, hown, hts⟩ (m_X5_own l D cI cJ cO hm mh mo my mp (va_up M 0 (0 : Int32)) mc mhol mof mdy mpd x4 6 v17 hv17) (cwV 2 hts gX5_paysIn_X5_own rfl rfl rfl (by decide +kernel) ⟨(Nat.le_of_ble_eq_true rfl), (Nat.le_of_ble_eq_true rfl)⟩) ⟨pw_blind, va_recv hK hP (ci := 4) (q0 := 0) rfl rfl, fun U hU hW => ⟨rfl, pw_at hZ hS hP hK hU hW (Or.inr rfl) [0, 1, 2, 3, 4] rfl⟩⟩ rfl rfl hl.1 rfl (lv_room (Nat.le_of_ble_eq_true rfl)) dX5_paysIn_81 ⟨(Nat.le_of_ble_eq_true rfl), (Nat.le_of_ble_eq_true rfl)⟩) ?_
                refine lv_icmp_ge (tgt := 206) hx hb dX5_paysIn_84 (by decide) (fun c18 => ?_) (fun c18 => ?_)
                · have hf := it hf c18
                  exact JK14 x11 ls (lv_sub hl [0, 1, 2, 3] rfl) hf
                · have hf := ie hf c18
                  refine lv_iload hx hb dX5_paysIn_87 (lv_at hl 5 rfl) ?_
                  refine lv_aload_n hx hb dX5_paysIn_89 rfl (lv_at hl 0 rfl) ?_
                  refine lv_iload hx hb dX5_paysIn_90 (lv_at hl 3 rfl) ?_
                  refine lv_bipush (v := 6) hx hb dX5_paysIn_92 (by decide) ?_
                  obtain ⟨v19, hv19, hf⟩ := ob hf
                  refine cSi (W.runV (As := [.int x4, .int 6]) (rest := [.int x13]) ⟨hx, hb, hml, hown, hts⟩ (m_X5_own l D cI cJ cO hm mh mo my mp (va_up M 0 (0 : Int32)) mc mhol mof mdy mpd x4 6 v19 hv19) (cwV 2 hts gX5_paysIn_X5_own rfl rfl rfl (by decide +kernel) ⟨(Nat.le_of_ble_eq_true rfl), (Nat.le_of_ble_eq_true rfl)⟩) ⟨pw_blind, va_recv hK hP (ci := 4) (q0 := 0) rfl rfl, fun U hU hW => ⟨rfl, pw_at hZ hS hP hK hU hW (Or.inr rfl) [0, 1, 2, 3, 4] rfl⟩⟩ rfl rfl hl.1 rfl (lv_room (Nat.le_of_ble_eq_true rfl)) dX5_paysIn_94 ⟨(Nat.le_of_ble_eq_true rfl), (Nat.le_of_ble_eq_true rfl)⟩) ?_
                  refine lv_iconst (v := 1) hx hb dX5_paysIn_97 (by decide) ?_
                  refine lv_isub hx hb dX5_paysIn_98 ?_
                  obtain ⟨K20, hK20, hf⟩ := jn_s hf
                  have JK20 : ∀ (x21 : Int32) (ls : Array Slot), lv_has ls 8 [(0, .ref hm), (1, .int a0), (2, .long x11), (4, .int x4), (5, .int x12), (6, .int x13)] → K20 x21 = some r → W p l e (headSpec wsX5_paysIn ({ frames := 4, cells := 0, slots := 0, locals := 95 })).room s m ([.ref hm, .int a0] : List Value).toArray below meth c H locs 0 0 (MQ below (mQl D A r.1 [eM hm mh mo my mp r.2 mc, eH cI mh mhol, eO cI mo mof, eY cI my mdy, eP cJ mp mpd]) ([.ref hm, .int a0] : List Value).toArray s 0 0 A) (F0 m 135 ls [.int x21]) := by
                    intro x21 ls hl hf
                    rw [hK20] at hf
                    refine lv_istore (lv' := [(7, .int x21), (0, .ref hm), (1, .int a0), (2, .long x11), (4, .int x4), (5, .int x12), (6, .int x13)]) hx hb dX5_paysIn_135 hl (by decide) rfl (fun ls hl => ?_)
                    refine lv_aload_n hx hb dX5_paysIn_137 rfl (lv_at hl 1 rfl) ?_
                    refine lv_iload hx hb dX5_paysIn_138 (lv_at hl 4 rfl) ?_
                    refine lv_iload hx hb dX5_paysIn_140 (lv_at hl 6 rfl) ?_
                    obtain ⟨v22, hv22, hf⟩ := ob hf
                    refine cSi (W.runV (As := [.int x4, .int x13]) (rest := []) ⟨hx, hb, hml, hown, hts⟩ (m_X5_couponDay l D cI cJ cO hm mh mo my mp (va_up M 0 (0 : Int32)) mc mhol mof mdy mpd x4 x13 v22 hv22) (cwV 2 hts gX5_paysIn_X5_couponDay rfl rfl rfl (by decide +kernel) ⟨(Nat.le_of_ble_eq_true rfl), (Nat.le_of_ble_eq_true rfl)⟩) ⟨pw_blind, va_recv hK hP (ci := 4) (q0 := 0) rfl rfl, fun U hU hW => ⟨rfl, pw_at hZ hS hP hK hU hW (Or.inr rfl) [0, 1, 2, 3, 4] rfl⟩⟩ rfl rfl hl.1 rfl (lv_room (Nat.le_of_ble_eq_true rfl)) dX5_paysIn_142 ⟨(Nat.le_of_ble_eq_true rfl), (Nat.le_of_ble_eq_true rfl)⟩) ?_
                    obtain ⟨v23, hv23, hf⟩ := ob hf
                    refine cSi (W.runS (As := [.int v22]) (rest := []) ⟨hx, hb, hml, hown, hts⟩ (m_X5_date l D cI cJ cO v22 N v23 hv23) (va_cwS 1 hts gX5_paysIn_X5_date rfl rfl rfl (by decide +kernel) ⟨(Nat.le_of_ble_eq_true rfl), (Nat.le_of_ble_eq_true rfl)⟩) ⟨pw_blind, fun U hU hW => ⟨rfl, pw_at hZ hS hP hK hU hW (Or.inr rfl) [] rfl⟩⟩ rfl rfl hl.1 rfl (lv_room (Nat.le_of_ble_eq_true rfl)) dX5_paysIn_145 ⟨(Nat.le_of_ble_eq_true rfl), (Nat.le_of_ble_eq_true rfl)⟩) ?_
                    refine lv_sipush (v := 10000) hx hb dX5_paysIn_148 (by decide) ?_
                    refine lv_idiv hx hb dX5_paysIn_151 (by decide) ?_
                    refine lv_iload_n hx hb dX5_paysIn_152 rfl (lv_at hl 2 rfl) ?_
                    obtain ⟨K24, hK24, hf⟩ := jn_s hf
                    have JK24 : ∀ (x25 : Int64) (ls : Array Slot), lv_has ls 8 [(0, .ref hm), (1, .int a0), (2, .long x25), (4, .int x4), (5, .int x12), (6, .int x13), (7, .int x21)] → K24 x25 = some r → W p l e (headSpec wsX5_paysIn ({ frames := 4, cells := 0, slots := 0, locals := 95 })).room s m ([.ref hm, .int a0] : List Value).toArray below meth c H locs 0 0 (MQ below (mQl D A r.1 [eM hm mh mo my mp r.2 mc, eH cI mh mhol, eO cI mo mof, eY cI my mdy, eP cJ mp mpd]) ([.ref hm, .int a0] : List Value).toArray s 0 0 A) (F0 m 193 ls []) := by
                      intro x25 ls hl hf
                      rw [hK24] at hf
                      refine lv_iload hx hb dX5_paysIn_193 (lv_at hl 4 rfl) ?_
                      refine lv_iload hx hb dX5_paysIn_195 (lv_at hl 6 rfl) ?_
                      refine lv_isub hx hb dX5_paysIn_197 ?_
                      refine lv_topi (fun x26 ex26 => ?_)
                      have hf := bd_s hf ex26
                      refine lv_istore (lv' := [(5, .int x26), (0, .ref hm), (1, .int a0), (2, .long x25), (4, .int x4), (6, .int x13), (7, .int x21)]) hx hb dX5_paysIn_198 hl (by decide) rfl (fun ls hl => ?_)
                      obtain ⟨x27, ex27⟩ : ∃ y : Int32, y = x13 + 1 := ⟨_, rfl⟩
                      have hf := bd_s hf ex27
                      refine lv_iinc (v := x27) (lv' := [(6, .int x27), (5, .int x26), (0, .ref hm), (1, .int a0), (2, .long x25), (4, .int x4), (7, .int x21)]) hx hb dX5_paysIn_200 hl (k := 5) rfl (by rw [ex27]; rfl) (by decide) rfl (fun ls hl => ?_)
                      refine lv_goto (tgt := 74) hx hb dX5_paysIn_203 (by decide) ?_
                      exact ih16 x25 x26 x27 ls (lv_sub hl [2, 3, 4, 5, 1, 0] rfl) hf
                    refine lv_icmp_ne (tgt := 193) hx hb dX5_paysIn_153 (by decide) (fun c28 => ?_) (fun c28 => ?_)
                    · have hf := ie hf c28
                      exact JK24 x11 ls (lv_sub hl [1, 2, 3, 4, 5, 6, 0] rfl) hf
                    · have hf := it hf c28
                      refine lv_lload_n hx hb dX5_paysIn_156 rfl (lv_at hl 3 rfl) ?_
                      refine lv_aload_n hx hb dX5_paysIn_157 rfl (lv_at hl 1 rfl) ?_
                      refine lv_iload hx hb dX5_paysIn_158 (lv_at hl 4 rfl) ?_
                      refine lv_bipush (v := 9) hx hb dX5_paysIn_160 (by decide) ?_
                      obtain ⟨v29, hv29, hf⟩ := ob hf
                      refine cSi (W.runV (As := [.int x4, .int 9]) (rest := [.long x11]) ⟨hx, hb, hml, hown, hts⟩ (m_X5_own l D cI cJ cO hm mh mo my mp (va_up M 0 (0 : Int32)) mc mhol mof mdy mpd x4 9 v29 hv29) (cwV 2 hts gX5_paysIn_X5_own rfl rfl rfl (by decide +kernel) ⟨(Nat.le_of_ble_eq_true rfl), (Nat.le_of_ble_eq_true rfl)⟩) ⟨pw_blind, va_recv hK hP (ci := 4) (q0 := 0) rfl rfl, fun U hU hW => ⟨rfl, pw_at hZ hS hP hK hU hW (Or.inr rfl) [0, 1, 2, 3, 4] rfl⟩⟩ rfl rfl hl.1 rfl (lv_room (Nat.le_of_ble_eq_true rfl)) dX5_paysIn_162 ⟨(Nat.le_of_ble_eq_true rfl), (Nat.le_of_ble_eq_true rfl)⟩) ?_
                      refine lv_i2l hx hb dX5_paysIn_165 rfl ?_
                      refine lv_aload_n hx hb dX5_paysIn_166 rfl (lv_at hl 1 rfl) ?_
                      refine lv_iload hx hb dX5_paysIn_167 (lv_at hl 4 rfl) ?_
                      refine lv_iload hx hb dX5_paysIn_169 (lv_at hl 6 rfl) ?_
                      refine lv_ldc2 hx hb hown (hts (.constantLong RX5 159 (10)) (by decide +kernel)) dX5_paysIn_171 ?_
                      refine lv_iload hx hb dX5_paysIn_174 (lv_at hl 5 rfl) ?_
                      refine lv_i2l hx hb dX5_paysIn_176 rfl ?_
                      refine lv_lmul hx hb dX5_paysIn_177 ?_
                      obtain ⟨v30, hv30, hf⟩ := ob hf
                      refine cSi (W.runV (As := [.int x4, .int x13, .long (10 * x12.toInt64)]) (rest := [.long v29.toInt64, .long x11]) ⟨hx, hb, hml, hown, hts⟩ (m_X5_coupon l D cI cJ cO hm mh mo my mp (va_up M 0 (0 : Int32)) mc mhol mof mdy mpd x4 x13 (10 * x12.toInt64) N v30 hv30) (cwV 3 hts gX5_paysIn_X5_coupon rfl rfl rfl (by decide +kernel) ⟨(Nat.le_of_ble_eq_true rfl), (Nat.le_of_ble_eq_true rfl)⟩) ⟨pw_blind, va_recv hK hP (ci := 4) (q0 := 0) rfl rfl, fun U hU hW => ⟨rfl, pw_at hZ hS hP hK hU hW (Or.inr rfl) [0, 1, 2, 3, 4] rfl⟩⟩ rfl rfl hl.1 rfl (lv_room (Nat.le_of_ble_eq_true rfl)) dX5_paysIn_178 ⟨(Nat.le_of_ble_eq_true rfl), (Nat.le_of_ble_eq_true rfl)⟩) ?_
                      refine lv_i2l hx hb dX5_paysIn_181 rfl ?_
                      refine lv_ldc2 hx hb hown (hts (.constantLong RX5 159 (10)) (by decide +kernel)) dX5_paysIn_182 ?_
                      refine lv_iload hx hb dX5_paysIn_185 (lv_at hl 0 rfl) ?_
                      refine lv_i2l hx hb dX5_paysIn_187 rfl ?_
                      refine lv_lmul hx hb dX5_paysIn_188 ?_
                      refine lv_ladd hx hb dX5_paysIn_189 ?_
                      refine lv_lmul hx hb dX5_paysIn_190 ?_
                      refine lv_ladd hx hb dX5_paysIn_191 ?_
                      refine lv_topl (fun x31 ex31 => ?_)
                      have hf := bd_s hf ex31
                      refine lv_lstore_n (lv' := [(2, .long x31), (7, .int x21), (0, .ref hm), (1, .int a0), (4, .int x4), (5, .int x12), (6, .int x13)]) hx hb dX5_paysIn_192 rfl hl (by decide) rfl (fun ls hl => ?_)
                      exact JK24 x31 ls (lv_sub hl [2, 3, 0, 4, 5, 6, 1] rfl) hf
                  refine lv_icmp_ne (tgt := 107) hx hb dX5_paysIn_99 (by decide) (fun c32 => ?_) (fun c32 => ?_)
                  · have hf := ie hf c32
                    refine lv_aload_n hx hb dX5_paysIn_107 rfl (lv_at hl 0 rfl) ?_
                    refine lv_iload hx hb dX5_paysIn_108 (lv_at hl 3 rfl) ?_
                    refine lv_iload hx hb dX5_paysIn_110 (lv_at hl 5 rfl) ?_
                    obtain ⟨v33, hv33, hf⟩ := ob hf
                    refine cSz (W.runV (As := [.int x4, .int x13]) (rest := []) ⟨hx, hb, hml, hown, hts⟩ (m_X5_isSunk l D cI cJ cO hm mh mo my mp (va_up M 0 (0 : Int32)) mc mhol mof mdy mpd x4 x13 v33 hv33) (cwV 2 hts gX5_paysIn_X5_isSunk rfl rfl rfl (by decide +kernel) ⟨(Nat.le_of_ble_eq_true rfl), (Nat.le_of_ble_eq_true rfl)⟩) ⟨pw_blind, va_recv hK hP (ci := 4) (q0 := 0) rfl rfl, fun U hU hW => ⟨rfl, pw_at hZ hS hP hK hU hW (Or.inr rfl) [0, 1, 2, 3, 4] rfl⟩⟩ rfl rfl hl.1 rfl (lv_room (Nat.le_of_ble_eq_true rfl)) dX5_paysIn_112 ⟨(Nat.le_of_ble_eq_true rfl), (Nat.le_of_ble_eq_true rfl)⟩) (fun zv33 => ?_)
                    refine lv_if_eq (tgt := 134) hx hb dX5_paysIn_115 (by decide) (fun c34 => ?_) (fun c34 => ?_)
                    · have hf := it hf c34
                      refine lv_iconst (v := 0) hx hb dX5_paysIn_134 (by decide) ?_
                      exact JK20 0 ls (lv_sub hl [0, 1, 2, 3, 4, 5] rfl) hf
                    · have hf := ie hf c34
                      refine lv_iload hx hb dX5_paysIn_118 (lv_at hl 4 rfl) ?_
                      refine lv_aload_n hx hb dX5_paysIn_120 rfl (lv_at hl 0 rfl) ?_
                      refine lv_iload hx hb dX5_paysIn_121 (lv_at hl 3 rfl) ?_
                      refine lv_bipush (v := 11) hx hb dX5_paysIn_123 (by decide) ?_
                      obtain ⟨v35, hv35, hf⟩ := ob hf
                      refine cSi (W.runV (As := [.int x4, .int 11]) (rest := [.int x12]) ⟨hx, hb, hml, hown, hts⟩ (m_X5_own l D cI cJ cO hm mh mo my mp (va_up M 0 (0 : Int32)) mc mhol mof mdy mpd x4 11 v35 hv35) (cwV 2 hts gX5_paysIn_X5_own rfl rfl rfl (by decide +kernel) ⟨(Nat.le_of_ble_eq_true rfl), (Nat.le_of_ble_eq_true rfl)⟩) ⟨pw_blind, va_recv hK hP (ci := 4) (q0 := 0) rfl rfl, fun U hU hW => ⟨rfl, pw_at hZ hS hP hK hU hW (Or.inr rfl) [0, 1, 2, 3, 4] rfl⟩⟩ rfl rfl hl.1 rfl (lv_room (Nat.le_of_ble_eq_true rfl)) dX5_paysIn_125 ⟨(Nat.le_of_ble_eq_true rfl), (Nat.le_of_ble_eq_true rfl)⟩) ?_
                      refine va_mmin hx hb (hml.trans hl.1.symm) hown (hts (.methodLink RX5 80 Lib.Math.min.name) (by decide +kernel)) (hts (.static Lib.Math.min.name) (by decide +kernel)) (hts (.initialized "java/lang/Math") (by decide +kernel)) (hts (.code Lib.Math.min.name Lib.Math.min.code 2 (some .int)) (by decide +kernel)) (Nat.le_of_ble_eq_true rfl) (Nat.le_of_ble_eq_true rfl) (Nat.le_of_ble_eq_true rfl) (Nat.le_of_ble_eq_true rfl) dX5_paysIn_128 ?_
                      refine lv_topi (fun x36 ex36 => ?_)
                      have hf := bd_s hf ex36
                      refine lv_goto (tgt := 135) hx hb dX5_paysIn_131 (by decide) ?_
                      exact JK20 x36 ls (lv_sub hl [0, 1, 2, 3, 4, 5] rfl) hf
                  · have hf := it hf c32
                    refine lv_iload hx hb dX5_paysIn_102 (lv_at hl 4 rfl) ?_
                    refine lv_goto (tgt := 135) hx hb dX5_paysIn_104 (by decide) ?_
                    exact JK20 x12 ls (lv_sub hl [0, 1, 2, 3, 4, 5] rfl) hf
            exact LP74 N x3 v9 v10 ls (lv_sub hl [2, 3, 4, 5, 1, 0] rfl) hf
          · have hf := it hf c8
            refine lv_goto (tgt := 206) hx hb dX5_paysIn_50 (by decide) ?_
            obtain ⟨x38, ex38⟩ : ∃ y : Int32, y = x4 + 1 := ⟨_, rfl⟩
            have hf := bd_s hf ex38
            refine lv_iinc (v := x38) (lv' := [(4, .int x38), (0, .ref hm), (1, .int a0), (2, .long x3)]) hx hb dX5_paysIn_206 hl (k := 3) rfl (by rw [ex38]; rfl) (by decide) rfl (fun ls hl => ?_)
            refine lv_goto (tgt := 30) hx hb dX5_paysIn_209 (by decide) ?_
            exact ih5 x3 x38 ls (lv_sub hl [1, 2, 3, 0] rfl) hf
    exact LP30 N 0 0 ls (lv_sub hl [2, 3, 1, 0] rfl) hf
  · have hf := it hf c2
    refine lv_aload_n hx hb dX5_paysIn_18 rfl (lv_at hl 0 rfl) ?_
    refine lv_iconst (v := 1) hx hb dX5_paysIn_19 (by decide) ?_
    obtain ⟨v39, hv39, hf⟩ := ob hf
    have hPc := hP.sub (ws' := [eM hm mh mo my mp (va_up M 0 (0 : Int32)) mc, eH cI mh mhol, eO cI mo mof, eY cI my mdy, eP cJ mp mpd]) [0, 1, 2, 3, 4] rfl
    have hDc := hD.sub (ws' := [eM hm mh mo my mp (va_up M 0 (0 : Int32)) mc, eH cI mh mhol, eO cI mo mof, eY cI my mdy, eP cJ mp mpd]) [0, 1, 2, 3, 4] (by decide) rfl
    have hFc := va_free (wc := [eM hm mh mo my mp (va_up M 0 (0 : Int32)) mc, eH cI mh mhol, eO cI mo mof, eY cI my mdy, eP cJ mp mpd]) hD hS hA [0, 1, 2, 3, 4] rfl
    refine va_calli (va_runV (As := [.int 1]) (rest := []) ⟨hx, hb, hml, hown, hts⟩ (m_X5_no l D cI cJ cO hm mh mo my mp (va_up M 0 (0 : Int32)) mc mhol mof mdy mpd H.size 1 v39 hv39) (cwV 1 hts gX5_paysIn_X5_no rfl rfl rfl (by decide +kernel) ⟨(Nat.le_of_ble_eq_true rfl), (Nat.le_of_ble_eq_true rfl)⟩) ⟨mp_blind, va_recv hK hP (ci := 4) (q0 := 0) rfl rfl, fun U hU hW => ⟨rfl, mp_at hZ hS hPc hK hDc hFc hU hW (Or.inr rfl)⟩⟩ rfl rfl hl.1 rfl (lv_room (Nat.le_of_ble_eq_true rfl)) dX5_paysIn_20 ⟨(Nat.le_of_ble_eq_true rfl), (Nat.le_of_ble_eq_true rfl)⟩) hS (fun q _ h => hFc q h) hFc (fun rv39 u t H1 locs ht9 hvm hw hBx hz1 hk1 hS => ?_)
    subst hw
    obtain ⟨hP1, hD1⟩ := hBx
    rw [ht9] at hP1
    obtain ⟨hP, hD⟩ := va_join (wr := []) (w1 := [eM hm mh mo my mp v39.2 mc, eH cI mh mhol, eO cI mo mof, eY cI my mdy, eP cJ mp mpd]) hP hD [0, 1, 2, 3, 4] [] rfl rfl (by decide) (by decide) hk1 hFc hP1 hD1
    have hP := hP.sub (ws' := [eM hm mh mo my mp v39.2 mc, eH cI mh mhol, eO cI mo mof, eY cI my mdy, eP cJ mp mpd]) [0, 1, 2, 3, 4] rfl
    have hD := hD.sub (ws' := [eM hm mh mo my mp v39.2 mc, eH cI mh mhol, eO cI mo mof, eY cI my mdy, eP cJ mp mpd]) [0, 1, 2, 3, 4] (by decide) rfl
    generalize H1 = H at hP hS ⊢
    refine lv_i2l hx hb dX5_paysIn_23 rfl ?_
    refine W.widen (k := 0) (n := 0) (Nat.le_of_ble_eq_true rfl) (Nat.le_of_ble_eq_true rfl) ?_
    have e9 := Option.some.inj hf
    subst e9
    exact W.lret hx hb hr (fun t ht hW => ⟨⟨_, (), rfl, rfl, by rw [ht]; exact hP, hD⟩, hS.F ht⟩) hS.2.2 dX5_paysIn_24
theorem inX5_ladder_X5 : ∀ w ∈ wsX50, w ∈ wsX5_ladder := by decide +kernel
set_option maxHeartbeats 4000000 in
set_option maxRecDepth 100000 in
theorem m_X5_ladder (l : Launch) (D : va_G) (cI cJ cO : ClassId) (hm : Nat) (mh : Nat) (mo : Nat) (my : Nat) (mp : Nat) (M : Nat → Int32) (mc : Int64) (mhol : Nat → Int32) (mof : Nat → Int32) (mdy : Nat → Int32) (mpd : Nat → Int64) (sz : Nat) (a0 : Int32) (a1 : Int32) (N : Nat) (r : Int32 × (Nat → Int32)) (hf : f_X5_ladder N M mc mof mdy a0 a1 = some r) : Met l yX5_ladder wsX5_ladder ({ frames := 6, cells := 0, slots := 0, locals := 151 }) (va_Pc [.ref hm, .int a0, .int a1] (mP D (ty3 cI cJ cO) none [eM hm mh mo my mp M mc, eH cI mh mhol, eO cI mo mof, eY cI my mdy, eP cJ mp mpd] sz)) (mQi D (va_A [eM hm mh mo my mp M mc, eH cI mh mhol, eO cI mo mof, eY cI my mdy, eP cJ mp mpd] sz) r.1 [eM hm mh mo my mp r.2 mc, eH cI mh mhol, eO cI mo mof, eY cI my mdy, eP cJ mp mpd]) 0 0 (va_A [eM hm mh mo my mp M mc, eH cI mh mhol, eO cI mo mof, eY cI my mdy, eP cJ mp mpd] sz) := by
  refine Met.ofW (cc := cX5_ladder) (maxL := 11) (ret := (some .int)) (by decide) rfl ?_
  intro p e s m args below meth c s₁ Bd hml hv
  obtain ⟨rfl, hsz, hZ, hP, hK, hD0⟩ := hv
  have hx := Bd.exec
  have hb := Bd.bytes
  have hr := Bd.returns
  have hts := atoms_spec (ws := wsX5_ladder) Bd.pre
  have hown : s.vm.findClass RX5 = some m.cls := findClass_of_methodNamed Bd.named
  have hlocks := Bd.notSynchronized
  subst hsz
  have hD := hD0.self (sz := s.heap.size)
  generalize hAe : va_A [eM hm mh mo my mp M mc, eH cI mh mhol, eO cI mo mof, eY cI my mdy, eP cJ mp mpd] s.heap.size = A at hD hZ ⊢
  have hA : ∀ q : Nat, s.heap.size ≤ q → A q := fun q h => by rw [← hAe]; exact Or.inr h
  have hS : va_S A s.heap s.heap [] := va_S.rf
  have hl := lv_entry ([.ref hm, .int a0, .int a1]) (n := 11) (Nat.le_of_ble_eq_true rfl)
  rw [lg_entry_eq]
  generalize (lg_sl ([.ref hm, .int a0, .int a1]) ++ List.replicate (11 - (lg_sl ([.ref hm, .int a0, .int a1])).length) Slot.unset).toArray = ls at hl ⊢
  have hl : lv_has ls 11 [(0, .ref hm), (1, .int a0), (2, .int a1)] := hl
  unfold f_X5_ladder at hf
  refine lv_aload_n hx hb dX5_ladder_0 rfl (lv_at hl 0 rfl) ?_
  refine lv_iconst (v := 0) hx hb dX5_ladder_1 (by decide) ?_
  refine va_put (D := D) (ci := 4) (v := .int 0) (ty := .int) (C := RX5) (T := TX5) (N := 10) hx hb hts inX5_ladder_X5 tyX5 tyX5_ok nmX5 hown hK hP hD hS 0 rfl rfl 0 (by decide) (hts (.fieldLink RX5 41 "BondDeskModel" "thrown" "I") (by decide +kernel)) (fun _ h9 => h9) rfl (by decide +kernel) rfl rfl (Nat.le_of_ble_eq_true rfl) dX5_ladder_2 (fun H locs hP hD hS => ?_)
  have hP : va_P D vwCl [eM hm mh mo my mp (va_up M 0 (0 : Int32)) mc, eH cI mh mhol, eO cI mo mof, eY cI my mdy, eP cJ mp mpd] H := hP
  have hD : va_D A [eM hm mh mo my mp (va_up M 0 (0 : Int32)) mc, eH cI mh mhol, eO cI mo mof, eY cI my mdy, eP cJ mp mpd] := hD
  refine lv_iload_n hx hb dX5_ladder_5 rfl (lv_at hl 1 rfl) ?_
  refine lv_sipush (v := 2016) hx hb dX5_ladder_6 (by decide) ?_
  refine lv_sipush (v := 2066) hx hb dX5_ladder_9 (by decide) ?_
  obtain ⟨v1, hv1, hf⟩ := ob hf
  refine cSz (W.runS (As := [.int a0, .int 2016, .int 2066]) (rest := []) ⟨hx, hb, hml, hown, hts⟩ (m_X5_isIn l D cI cJ cO a0 2016 2066 v1 hv1) (va_cwS 3 hts gX5_ladder_X5_isIn rfl rfl rfl (by decide +kernel) ⟨(Nat.le_of_ble_eq_true rfl), (Nat.le_of_ble_eq_true rfl)⟩) ⟨pw_blind, fun U hU hW => ⟨rfl, pw_at hZ hS hP hK hU hW (Or.inr rfl) [] rfl⟩⟩ rfl rfl hl.1 rfl (lv_room (Nat.le_of_ble_eq_true rfl)) dX5_ladder_12 ⟨(Nat.le_of_ble_eq_true rfl), (Nat.le_of_ble_eq_true rfl)⟩) (fun zv1 => ?_)
  refine lv_if_eq (tgt := 29) hx hb dX5_ladder_15 (by decide) (fun c2 => ?_) (fun c2 => ?_)
  · have hf := it hf c2
    refine lv_aload_n hx hb dX5_ladder_29 rfl (lv_at hl 0 rfl) ?_
    refine lv_iconst (v := 1) hx hb dX5_ladder_30 (by decide) ?_
    obtain ⟨v3, hv3, hf⟩ := ob hf
    have hPc := hP.sub (ws' := [eM hm mh mo my mp (va_up M 0 (0 : Int32)) mc, eH cI mh mhol, eO cI mo mof, eY cI my mdy, eP cJ mp mpd]) [0, 1, 2, 3, 4] rfl
    have hDc := hD.sub (ws' := [eM hm mh mo my mp (va_up M 0 (0 : Int32)) mc, eH cI mh mhol, eO cI mo mof, eY cI my mdy, eP cJ mp mpd]) [0, 1, 2, 3, 4] (by decide) rfl
    have hFc := va_free (wc := [eM hm mh mo my mp (va_up M 0 (0 : Int32)) mc, eH cI mh mhol, eO cI mo mof, eY cI my mdy, eP cJ mp mpd]) hD hS hA [0, 1, 2, 3, 4] rfl
    refine va_calli (va_runV (As := [.int 1]) (rest := []) ⟨hx, hb, hml, hown, hts⟩ (m_X5_no l D cI cJ cO hm mh mo my mp (va_up M 0 (0 : Int32)) mc mhol mof mdy mpd H.size 1 v3 hv3) (cwV 1 hts gX5_ladder_X5_no rfl rfl rfl (by decide +kernel) ⟨(Nat.le_of_ble_eq_true rfl), (Nat.le_of_ble_eq_true rfl)⟩) ⟨mp_blind, va_recv hK hP (ci := 4) (q0 := 0) rfl rfl, fun U hU hW => ⟨rfl, mp_at hZ hS hPc hK hDc hFc hU hW (Or.inr rfl)⟩⟩ rfl rfl hl.1 rfl (lv_room (Nat.le_of_ble_eq_true rfl)) dX5_ladder_31 ⟨(Nat.le_of_ble_eq_true rfl), (Nat.le_of_ble_eq_true rfl)⟩) hS (fun q _ h => hFc q h) hFc (fun rv3 u t H1 locs ht9 hvm hw hBx hz1 hk1 hS => ?_)
    subst hw
    obtain ⟨hP1, hD1⟩ := hBx
    rw [ht9] at hP1
    obtain ⟨hP, hD⟩ := va_join (wr := []) (w1 := [eM hm mh mo my mp v3.2 mc, eH cI mh mhol, eO cI mo mof, eY cI my mdy, eP cJ mp mpd]) hP hD [0, 1, 2, 3, 4] [] rfl rfl (by decide) (by decide) hk1 hFc hP1 hD1
    have hP := hP.sub (ws' := [eM hm mh mo my mp v3.2 mc, eH cI mh mhol, eO cI mo mof, eY cI my mdy, eP cJ mp mpd]) [0, 1, 2, 3, 4] rfl
    have hD := hD.sub (ws' := [eM hm mh mo my mp v3.2 mc, eH cI mh mhol, eO cI mo mof, eY cI my mdy, eP cJ mp mpd]) [0, 1, 2, 3, 4] (by decide) rfl
    generalize H1 = H at hP hS ⊢
    refine W.widen (k := 0) (n := 0) (Nat.le_of_ble_eq_true rfl) (Nat.le_of_ble_eq_true rfl) ?_
    have e9 := Option.some.inj hf
    subst e9
    exact W.iret hx hb hr (fun t ht hW => ⟨⟨_, (), rfl, rfl, by rw [ht]; exact hP, hD⟩, hS.F ht⟩) hS.2.2 dX5_ladder_34
  · have hf := ie hf c2
    refine lv_iload_n hx hb dX5_ladder_18 rfl (lv_at hl 2 rfl) ?_
    refine lv_iload_n hx hb dX5_ladder_19 rfl (lv_at hl 1 rfl) ?_
    refine lv_sipush (v := 2066) hx hb dX5_ladder_20 (by decide) ?_
    obtain ⟨v4, hv4, hf⟩ := ob hf
    refine cSz (W.runS (As := [.int a1, .int a0, .int 2066]) (rest := []) ⟨hx, hb, hml, hown, hts⟩ (m_X5_isIn l D cI cJ cO a1 a0 2066 v4 hv4) (va_cwS 3 hts gX5_ladder_X5_isIn rfl rfl rfl (by decide +kernel) ⟨(Nat.le_of_ble_eq_true rfl), (Nat.le_of_ble_eq_true rfl)⟩) ⟨pw_blind, fun U hU hW => ⟨rfl, pw_at hZ hS hP hK hU hW (Or.inr rfl) [] rfl⟩⟩ rfl rfl hl.1 rfl (lv_room (Nat.le_of_ble_eq_true rfl)) dX5_ladder_23 ⟨(Nat.le_of_ble_eq_true rfl), (Nat.le_of_ble_eq_true rfl)⟩) (fun zv4 => ?_)
    refine lv_if_ne (tgt := 35) hx hb dX5_ladder_26 (by decide) (fun c5 => ?_) (fun c5 => ?_)
    · have hf := ie hf c5
      refine lv_lconst (v := 0) hx hb dX5_ladder_35 (by decide) ?_
      refine lv_lstore_n (lv' := [(3, .long 0), (0, .ref hm), (1, .int a0), (2, .int a1)]) hx hb dX5_ladder_36 rfl hl (by decide) rfl (fun ls hl => ?_)
      refine lv_iload_n hx hb dX5_ladder_37 rfl (lv_at hl 2 rfl) ?_
      refine lv_istore (lv' := [(5, .int a0), (3, .long 0), (0, .ref hm), (1, .int a0), (2, .int a1)]) hx hb dX5_ladder_38 hl (by decide) rfl (fun ls hl => ?_)
      obtain ⟨K8, hK8, hf⟩ := kx_s (P := fun k => f_X5_ladder_L40 a1 M mof N mdy k N 0 a0 = some r) hf
      have JK8 : ∀ (x9 : Int64) (ls : Array Slot), lv_has ls 11 [(0, .ref hm), (3, .long x9)] → K8 x9 = some r → W p l e (headSpec wsX5_ladder ({ frames := 6, cells := 0, slots := 0, locals := 151 })).room s m ([.ref hm, .int a0, .int a1] : List Value).toArray below meth c H locs 0 0 (MQ below (mQi D A r.1 [eM hm mh mo my mp r.2 mc, eH cI mh mhol, eO cI mo mof, eY cI my mdy, eP cJ mp mpd]) ([.ref hm, .int a0, .int a1] : List Value).toArray s 0 0 A) (F0 m 183 ls []) := by
        intro x9 ls hl hf
        rw [hK8] at hf
        refine lv_lload_n hx hb dX5_ladder_183 rfl (lv_at hl 1 rfl) ?_
        refine lv_lconst (v := 0) hx hb dX5_ladder_184 (by decide) ?_
        refine W.lcmp hx hb dX5_ladder_185 ?_
        refine lv_if_ne (tgt := 193) hx hb dX5_ladder_186 (by decide) (fun c41 => ?_) (fun c41 => ?_)
        · have hf := ie hf c41
          refine lv_ldc2 hx hb hown (hts (.constantLong RX5 197 (1000000)) (by decide +kernel)) dX5_ladder_193 ?_
          refine lv_aload_n hx hb dX5_ladder_196 rfl (lv_at hl 0 rfl) ?_
          refine va_get (D := D) (ci := 4) (v := .long mc) (C := RX5) (T := TX5) (N := 10) hx hb hts inX5_ladder_X5 hown hK hP 0 rfl rfl 2 (by decide) (hts (.fieldLink RX5 20 "BondDeskModel" "cash" "J") (by decide +kernel)) (fun _ h9 => h9) rfl dX5_ladder_197 ?_
          refine lv_lload_n hx hb dX5_ladder_200 rfl (lv_at hl 1 rfl) ?_
          obtain ⟨c42, hf⟩ := gd_s hf
          refine lv_ldiv hx hb dX5_ladder_201 c42 ?_
          refine va_mmin_long hx hb (hml.trans hl.1.symm) hown (hts (.methodLink RX5 199 Lib.MathLoose.min_long.x) (by decide +kernel)) (hts (.static Lib.MathLoose.min_long.x) (by decide +kernel)) (hts (.initialized "java/lang/Math") (by decide +kernel)) (hts (.code Lib.MathLoose.min_long.x Lib.MathLoose.min_long.code 4 (some .long)) (by decide +kernel)) (Nat.le_of_ble_eq_true rfl) (Nat.le_of_ble_eq_true rfl) (Nat.le_of_ble_eq_true rfl) (Nat.le_of_ble_eq_true rfl) dX5_ladder_202 ?_
          refine lv_topl (fun x43 ex43 => ?_)
          have hf := bd_s hf ex43
          refine lv_l2i hx hb dX5_ladder_205 rfl ?_
          refine W.widen (k := 0) (n := 0) (Nat.le_of_ble_eq_true rfl) (Nat.le_of_ble_eq_true rfl) ?_
          have e9 := Option.some.inj hf
          subst e9
          exact W.iret hx hb hr (fun t ht hW => ⟨⟨_, (), rfl, rfl, by rw [ht]; exact hP, hD⟩, hS.F ht⟩) hS.2.2 dX5_ladder_206
        · have hf := it hf c41
          refine lv_iconst (v := 0) hx hb dX5_ladder_189 (by decide) ?_
          refine lv_goto (tgt := 206) hx hb dX5_ladder_190 (by decide) ?_
          refine W.widen (k := 0) (n := 0) (Nat.le_of_ble_eq_true rfl) (Nat.le_of_ble_eq_true rfl) ?_
          have e9 := Option.some.inj hf
          subst e9
          exact W.iret hx hb hr (fun t ht hW => ⟨⟨_, (), rfl, rfl, by rw [ht]; exact hP, hD⟩, hS.F ht⟩) hS.2.2 dX5_ladder_206
      have LP40 : ∀ (n10 : Nat) (x6 : Int64) (x7 : Int32) (ls : Array Slot), lv_has ls 11 [(0, .ref hm), (2, .int a1), (3, .long x6), (5, .int x7)] → f_X5_ladder_L40 a1 M mof N mdy K8 n10 x6 x7 = some r → W p l e (headSpec wsX5_ladder ({ frames := 6, cells := 0, slots := 0, locals := 151 })).room s m ([.ref hm, .int a0, .int a1] : List Value).toArray below meth c H locs 0 0 (MQ below (mQi D A r.1 [eM hm mh mo my mp r.2 mc, eH cI mh mhol, eO cI mo mof, eY cI my mdy, eP cJ mp mpd]) ([.ref hm, .int a0, .int a1] : List Value).toArray s 0 0 A) (F0 m 40 ls []) := by
        intro n10
        induction n10 with
        | zero => intro x6 x7 ls hl hf; exact (no_s hf).elim
        | succ n10 ih10 =>
          intro x6 x7 ls hl hf
          rw [f_X5_ladder_L40] at hf
          refine lv_iload hx hb dX5_ladder_40 (lv_at hl 3 rfl) ?_
          refine lv_iload_n hx hb dX5_ladder_42 rfl (lv_at hl 1 rfl) ?_
          refine lv_icmp_gt (tgt := 183) hx hb dX5_ladder_43 (by decide) (fun c11 => ?_) (fun c11 => ?_)
          · have hf := it hf c11
            exact JK8 x6 ls (lv_sub hl [0, 2] rfl) hf
          · have hf := ie hf c11
            refine lv_ldc2 hx hb hown (hts (.constantLong RX5 195 (-1)) (by decide +kernel)) dX5_ladder_46 ?_
            refine lv_topl (fun x12 ex12 => ?_)
            have hf := bd_s hf ex12
            refine lv_lstore (lv' := [(6, .long x12), (0, .ref hm), (2, .int a1), (3, .long x6), (5, .int x7)]) hx hb dX5_ladder_49 hl (by decide) rfl (fun ls hl => ?_)
            refine lv_iconst (v := 0) hx hb dX5_ladder_51 (by decide) ?_
            refine lv_istore (lv' := [(8, .int 0), (6, .long x12), (0, .ref hm), (2, .int a1), (3, .long x6), (5, .int x7)]) hx hb dX5_ladder_52 hl (by decide) rfl (fun ls hl => ?_)
            obtain ⟨K15, hK15, hf⟩ := kx_s (P := fun k => f_X5_ladder_L54 M mof N x7 mdy k N x12 0 = some r) hf
            have JK15 : ∀ (x16 : Int64) (ls : Array Slot), lv_has ls 11 [(0, .ref hm), (2, .int a1), (3, .long x6), (5, .int x7), (6, .long x16)] → K15 x16 = some r → W p l e (headSpec wsX5_ladder ({ frames := 6, cells := 0, slots := 0, locals := 151 })).room s m ([.ref hm, .int a0, .int a1] : List Value).toArray below meth c H locs 0 0 (MQ below (mQi D A r.1 [eM hm mh mo my mp r.2 mc, eH cI mh mhol, eO cI mo mof, eY cI my mdy, eP cJ mp mpd]) ([.ref hm, .int a0, .int a1] : List Value).toArray s 0 0 A) (F0 m 161 ls []) := by
              intro x16 ls hl hf
              rw [hK15] at hf
              refine lv_lload hx hb dX5_ladder_161 (lv_at hl 4 rfl) ?_
              refine lv_ldc2 hx hb hown (hts (.constantLong RX5 195 (-1)) (by decide +kernel)) dX5_ladder_163 ?_
              refine W.lcmp hx hb dX5_ladder_166 ?_
              refine lv_if_ne (tgt := 172) hx hb dX5_ladder_167 (by decide) (fun c38 => ?_) (fun c38 => ?_)
              · have hf := ie hf c38
                refine lv_lload_n hx hb dX5_ladder_172 rfl (lv_at hl 2 rfl) ?_
                refine lv_lload hx hb dX5_ladder_173 (lv_at hl 4 rfl) ?_
                refine lv_ladd hx hb dX5_ladder_175 ?_
                refine lv_topl (fun x39 ex39 => ?_)
                have hf := bd_s hf ex39
                refine lv_lstore_n (lv' := [(3, .long x39), (0, .ref hm), (2, .int a1), (5, .int x7), (6, .long x16)]) hx hb dX5_ladder_176 rfl hl (by decide) rfl (fun ls hl => ?_)
                obtain ⟨x40, ex40⟩ : ∃ y : Int32, y = x7 + 1 := ⟨_, rfl⟩
                have hf := bd_s hf ex40
                refine lv_iinc (v := x40) (lv' := [(5, .int x40), (3, .long x39), (0, .ref hm), (2, .int a1), (6, .long x16)]) hx hb dX5_ladder_177 hl (k := 3) rfl (by rw [ex40]; rfl) (by decide) rfl (fun ls hl => ?_)
                refine lv_goto (tgt := 40) hx hb dX5_ladder_180 (by decide) ?_
                exact ih10 x39 x40 ls (lv_sub hl [2, 3, 1, 0] rfl) hf
              · have hf := it hf c38
                refine lv_iconst (v := (-1)) hx hb dX5_ladder_170 (by decide) ?_
                refine W.widen (k := 0) (n := 0) (Nat.le_of_ble_eq_true rfl) (Nat.le_of_ble_eq_true rfl) ?_
                have e9 := Option.some.inj hf
                subst e9
                exact W.iret hx hb hr (fun t ht hW => ⟨⟨_, (), rfl, rfl, by rw [ht]; exact hP, hD⟩, hS.F ht⟩) hS.2.2 dX5_ladder_171
            have LP54 : ∀ (n17 : Nat) (x13 : Int64) (x14 : Int32) (ls : Array Slot), lv_has ls 11 [(0, .ref hm), (2, .int a1), (3, .long x6), (5, .int x7), (6, .long x13), (8, .int x14)] → f_X5_ladder_L54 M mof N x7 mdy K15 n17 x13 x14 = some r → W p l e (headSpec wsX5_ladder ({ frames := 6, cells := 0, slots := 0, locals := 151 })).room s m ([.ref hm, .int a0, .int a1] : List Value).toArray below meth c H locs 0 0 (MQ below (mQi D A r.1 [eM hm mh mo my mp r.2 mc, eH cI mh mhol, eO cI mo mof, eY cI my mdy, eP cJ mp mpd]) ([.ref hm, .int a0, .int a1] : List Value).toArray s 0 0 A) (F0 m 54 ls []) := by
              intro n17
              induction n17 with
              | zero => intro x13 x14 ls hl hf; exact (no_s hf).elim
              | succ n17 ih17 =>
                intro x13 x14 ls hl hf
                rw [f_X5_ladder_L54] at hf
                refine lv_iload hx hb dX5_ladder_54 (lv_at hl 5 rfl) ?_
                refine lv_aload_n hx hb dX5_ladder_56 rfl (lv_at hl 0 rfl) ?_
                refine va_get (D := D) (ci := 4) (v := .int (M 4)) (C := RX5) (T := TX5) (N := 10) hx hb hts inX5_ladder_X5 hown hK hP 0 rfl rfl 4 (by decide) (hts (.fieldLink RX5 77 "BondDeskModel" "bonds" "I") (by decide +kernel)) (fun _ h9 => h9) rfl dX5_ladder_57 ?_
                refine lv_icmp_ge (tgt := 161) hx hb dX5_ladder_60 (by decide) (fun c18 => ?_) (fun c18 => ?_)
                · have hf := it hf c18
                  exact JK15 x13 ls (lv_sub hl [0, 1, 2, 3, 4] rfl) hf
                · have hf := ie hf c18
                  refine lv_aload_n hx hb dX5_ladder_63 rfl (lv_at hl 0 rfl) ?_
                  refine lv_iload hx hb dX5_ladder_64 (lv_at hl 5 rfl) ?_
                  obtain ⟨v19, hv19, hf⟩ := ob hf
                  refine cSz (W.runV (As := [.int x14]) (rest := []) ⟨hx, hb, hml, hown, hts⟩ (m_X5_isThere l D cI cJ cO hm mh mo my mp (va_up M 0 (0 : Int32)) mc mhol mof mdy mpd x14 v19 hv19) (cwV 1 hts gX5_ladder_X5_isThere rfl rfl rfl (by decide +kernel) ⟨(Nat.le_of_ble_eq_true rfl), (Nat.le_of_ble_eq_true rfl)⟩) ⟨pw_blind, va_recv hK hP (ci := 4) (q0 := 0) rfl rfl, fun U hU hW => ⟨rfl, pw_at hZ hS hP hK hU hW (Or.inr rfl) [0, 1, 2, 3, 4] rfl⟩⟩ rfl rfl hl.1 rfl (lv_room (Nat.le_of_ble_eq_true rfl)) dX5_ladder_66 ⟨(Nat.le_of_ble_eq_true rfl), (Nat.le_of_ble_eq_true rfl)⟩) (fun zv19 => ?_)
                  refine lv_if_eq (tgt := 155) hx hb dX5_ladder_69 (by decide) (fun c20 => ?_) (fun c20 => ?_)
                  · have hf := it hf c20
                    obtain ⟨x21, ex21⟩ : ∃ y : Int32, y = x14 + 1 := ⟨_, rfl⟩
                    have hf := bd_s hf ex21
                    refine lv_iinc (v := x21) (lv' := [(8, .int x21), (0, .ref hm), (2, .int a1), (3, .long x6), (5, .int x7), (6, .long x13)]) hx hb dX5_ladder_155 hl (k := 5) rfl (by rw [ex21]; rfl) (by decide) rfl (fun ls hl => ?_)
                    refine lv_goto (tgt := 54) hx hb dX5_ladder_158 (by decide) ?_
                    exact ih17 x13 x21 ls (lv_sub hl [1, 2, 3, 4, 5, 0] rfl) hf
                  · have hf := ie hf c20
                    refine lv_aload_n hx hb dX5_ladder_72 rfl (lv_at hl 0 rfl) ?_
                    refine lv_iload hx hb dX5_ladder_73 (lv_at hl 5 rfl) ?_
                    refine lv_iconst (v := 0) hx hb dX5_ladder_75 (by decide) ?_
                    obtain ⟨v22, hv22, hf⟩ := ob hf
                    refine cSi (W.runV (As := [.int x14, .int 0]) (rest := []) ⟨hx, hb, hml, hown, hts⟩ (m_X5_own l D cI cJ cO hm mh mo my mp (va_up M 0 (0 : Int32)) mc mhol mof mdy mpd x14 0 v22 hv22) (cwV 2 hts gX5_ladder_X5_own rfl rfl rfl (by decide +kernel) ⟨(Nat.le_of_ble_eq_true rfl), (Nat.le_of_ble_eq_true rfl)⟩) ⟨pw_blind, va_recv hK hP (ci := 4) (q0 := 0) rfl rfl, fun U hU hW => ⟨rfl, pw_at hZ hS hP hK hU hW (Or.inr rfl) [0, 1, 2, 3, 4] rfl⟩⟩ rfl rfl hl.1 rfl (lv_room (Nat.le_of_ble_eq_true rfl)) dX5_ladder_76 ⟨(Nat.le_of_ble_eq_true rfl), (Nat.le_of_ble_eq_true rfl)⟩) ?_
                    refine lv_aload_n hx hb dX5_ladder_79 rfl (lv_at hl 0 rfl) ?_
                    refine va_get (D := D) (ci := 4) (v := .int (M 1)) (C := RX5) (T := TX5) (N := 10) hx hb hts inX5_ladder_X5 hown hK hP 0 rfl rfl 1 (by decide) (hts (.fieldLink RX5 14 "BondDeskModel" "today" "I") (by decide +kernel)) (fun _ h9 => h9) rfl dX5_ladder_80 ?_
                    refine lv_icmp_gt (tgt := 155) hx hb dX5_ladder_83 (by decide) (fun c23 => ?_) (fun c23 => ?_)
                    · have hf := it hf c23
                      obtain ⟨x24, ex24⟩ : ∃ y : Int32, y = x14 + 1 := ⟨_, rfl⟩
                      have hf := bd_s hf ex24
                      refine lv_iinc (v := x24) (lv' := [(8, .int x24), (0, .ref hm), (2, .int a1), (3, .long x6), (5, .int x7), (6, .long x13)]) hx hb dX5_ladder_155 hl (k := 5) rfl (by rw [ex24]; rfl) (by decide) rfl (fun ls hl => ?_)
                      refine lv_goto (tgt := 54) hx hb dX5_ladder_158 (by decide) ?_
                      exact ih17 x13 x24 ls (lv_sub hl [1, 2, 3, 4, 5, 0] rfl) hf
                    · have hf := ie hf c23
                      refine lv_aload_n hx hb dX5_ladder_86 rfl (lv_at hl 0 rfl) ?_
                      refine lv_iload hx hb dX5_ladder_87 (lv_at hl 5 rfl) ?_
                      refine lv_iconst (v := 1) hx hb dX5_ladder_89 (by decide) ?_
                      obtain ⟨v25, hv25, hf⟩ := ob hf
                      refine cSi (W.runV (As := [.int x14, .int 1]) (rest := []) ⟨hx, hb, hml, hown, hts⟩ (m_X5_own l D cI cJ cO hm mh mo my mp (va_up M 0 (0 : Int32)) mc mhol mof mdy mpd x14 1 v25 hv25) (cwV 2 hts gX5_ladder_X5_own rfl rfl rfl (by decide +kernel) ⟨(Nat.le_of_ble_eq_true rfl), (Nat.le_of_ble_eq_true rfl)⟩) ⟨pw_blind, va_recv hK hP (ci := 4) (q0 := 0) rfl rfl, fun U hU hW => ⟨rfl, pw_at hZ hS hP hK hU hW (Or.inr rfl) [0, 1, 2, 3, 4] rfl⟩⟩ rfl rfl hl.1 rfl (lv_room (Nat.le_of_ble_eq_true rfl)) dX5_ladder_90 ⟨(Nat.le_of_ble_eq_true rfl), (Nat.le_of_ble_eq_true rfl)⟩) ?_
                      refine lv_aload_n hx hb dX5_ladder_93 rfl (lv_at hl 0 rfl) ?_
                      refine va_get (D := D) (ci := 4) (v := .int (M 1)) (C := RX5) (T := TX5) (N := 10) hx hb hts inX5_ladder_X5 hown hK hP 0 rfl rfl 1 (by decide) (hts (.fieldLink RX5 14 "BondDeskModel" "today" "I") (by decide +kernel)) (fun _ h9 => h9) rfl dX5_ladder_94 ?_
                      refine lv_icmp_le (tgt := 155) hx hb dX5_ladder_97 (by decide) (fun c26 => ?_) (fun c26 => ?_)
                      · have hf := it hf c26
                        obtain ⟨x27, ex27⟩ : ∃ y : Int32, y = x14 + 1 := ⟨_, rfl⟩
                        have hf := bd_s hf ex27
                        refine lv_iinc (v := x27) (lv' := [(8, .int x27), (0, .ref hm), (2, .int a1), (3, .long x6), (5, .int x7), (6, .long x13)]) hx hb dX5_ladder_155 hl (k := 5) rfl (by rw [ex27]; rfl) (by decide) rfl (fun ls hl => ?_)
                        refine lv_goto (tgt := 54) hx hb dX5_ladder_158 (by decide) ?_
                        exact ih17 x13 x27 ls (lv_sub hl [1, 2, 3, 4, 5, 0] rfl) hf
                      · have hf := ie hf c26
                        refine lv_aload_n hx hb dX5_ladder_100 rfl (lv_at hl 0 rfl) ?_
                        refine lv_iload hx hb dX5_ladder_101 (lv_at hl 5 rfl) ?_
                        refine lv_iconst (v := 1) hx hb dX5_ladder_103 (by decide) ?_
                        obtain ⟨v28, hv28, hf⟩ := ob hf
                        refine cSi (W.runV (As := [.int x14, .int 1]) (rest := []) ⟨hx, hb, hml, hown, hts⟩ (m_X5_own l D cI cJ cO hm mh mo my mp (va_up M 0 (0 : Int32)) mc mhol mof mdy mpd x14 1 v28 hv28) (cwV 2 hts gX5_ladder_X5_own rfl rfl rfl (by decide +kernel) ⟨(Nat.le_of_ble_eq_true rfl), (Nat.le_of_ble_eq_true rfl)⟩) ⟨pw_blind, va_recv hK hP (ci := 4) (q0 := 0) rfl rfl, fun U hU hW => ⟨rfl, pw_at hZ hS hP hK hU hW (Or.inr rfl) [0, 1, 2, 3, 4] rfl⟩⟩ rfl rfl hl.1 rfl (lv_room (Nat.le_of_ble_eq_true rfl)) dX5_ladder_104 ⟨(Nat.le_of_ble_eq_true rfl), (Nat.le_of_ble_eq_true rfl)⟩) ?_
                        obtain ⟨v29, hv29, hf⟩ := ob hf
                        refine cSi (W.runS (As := [.int v28]) (rest := []) ⟨hx, hb, hml, hown, hts⟩ (m_X5_date l D cI cJ cO v28 N v29 hv29) (va_cwS 1 hts gX5_ladder_X5_date rfl rfl rfl (by decide +kernel) ⟨(Nat.le_of_ble_eq_true rfl), (Nat.le_of_ble_eq_true rfl)⟩) ⟨pw_blind, fun U hU hW => ⟨rfl, pw_at hZ hS hP hK hU hW (Or.inr rfl) [] rfl⟩⟩ rfl rfl hl.1 rfl (lv_room (Nat.le_of_ble_eq_true rfl)) dX5_ladder_107 ⟨(Nat.le_of_ble_eq_true rfl), (Nat.le_of_ble_eq_true rfl)⟩) ?_
                        refine lv_sipush (v := 10000) hx hb dX5_ladder_110 (by decide) ?_
                        refine lv_idiv hx hb dX5_ladder_113 (by decide) ?_
                        refine lv_iload hx hb dX5_ladder_114 (lv_at hl 3 rfl) ?_
                        refine lv_icmp_eq (tgt := 122) hx hb dX5_ladder_116 (by decide) (fun c30 => ?_) (fun c30 => ?_)
                        · have hf := it hf c30
                          refine lv_aload_n hx hb dX5_ladder_122 rfl (lv_at hl 0 rfl) ?_
                          refine lv_iload hx hb dX5_ladder_123 (lv_at hl 5 rfl) ?_
                          refine lv_aload_n hx hb dX5_ladder_125 rfl (lv_at hl 0 rfl) ?_
                          refine va_get (D := D) (ci := 4) (v := .int (M 3)) (C := RX5) (T := TX5) (N := 10) hx hb hts inX5_ladder_X5 hown hK hP 0 rfl rfl 3 (by decide) (hts (.fieldLink RX5 24 "BondDeskModel" "rate" "I") (by decide +kernel)) (fun _ h9 => h9) rfl dX5_ladder_126 ?_
                          obtain ⟨v31, hv31, hf⟩ := ob hf
                          refine cSl (W.runV (As := [.int x14, .int (M 3)]) (rest := []) ⟨hx, hb, hml, hown, hts⟩ (m_X5_worthNow l D cI cJ cO hm mh mo my mp (va_up M 0 (0 : Int32)) mc mhol mof mdy mpd x14 (M 3) N v31 hv31) (cwV 2 hts gX5_ladder_X5_worthNow rfl rfl rfl (by decide +kernel) ⟨(Nat.le_of_ble_eq_true rfl), (Nat.le_of_ble_eq_true rfl)⟩) ⟨pw_blind, va_recv hK hP (ci := 4) (q0 := 0) rfl rfl, fun U hU hW => ⟨rfl, pw_at hZ hS hP hK hU hW (Or.inr rfl) [0, 1, 2, 3, 4] rfl⟩⟩ rfl rfl hl.1 rfl (lv_room (Nat.le_of_ble_eq_true rfl)) dX5_ladder_129 ⟨(Nat.le_of_ble_eq_true rfl), (Nat.le_of_ble_eq_true rfl)⟩) ?_
                          refine lv_lstore (lv' := [(9, .long v31), (0, .ref hm), (2, .int a1), (3, .long x6), (5, .int x7), (6, .long x13), (8, .int x14)]) hx hb dX5_ladder_132 hl (by decide) rfl (fun ls hl => ?_)
                          refine lv_lload hx hb dX5_ladder_134 (lv_at hl 5 rfl) ?_
                          refine lv_ldc2 hx hb hown (hts (.constantLong RX5 195 (-1)) (by decide +kernel)) dX5_ladder_136 ?_
                          refine W.lcmp hx hb dX5_ladder_139 ?_
                          refine lv_if_eq (tgt := 151) hx hb dX5_ladder_140 (by decide) (fun c32 => ?_) (fun c32 => ?_)
                          · have hf := it hf c32
                            refine lv_lload hx hb dX5_ladder_151 (lv_at hl 0 rfl) ?_
                            refine lv_lstore (lv' := [(6, .long v31), (9, .long v31), (0, .ref hm), (2, .int a1), (3, .long x6), (5, .int x7), (8, .int x14)]) hx hb dX5_ladder_153 hl (by decide) rfl (fun ls hl => ?_)
                            obtain ⟨x33, ex33⟩ : ∃ y : Int32, y = x14 + 1 := ⟨_, rfl⟩
                            have hf := bd_s hf ex33
                            refine lv_iinc (v := x33) (lv' := [(8, .int x33), (6, .long v31), (9, .long v31), (0, .ref hm), (2, .int a1), (3, .long x6), (5, .int x7)]) hx hb dX5_ladder_155 hl (k := 6) rfl (by rw [ex33]; rfl) (by decide) rfl (fun ls hl => ?_)
                            refine lv_goto (tgt := 54) hx hb dX5_ladder_158 (by decide) ?_
                            exact ih17 v31 x33 ls (lv_sub hl [3, 4, 5, 6, 1, 0] rfl) hf
                          · have hf := ie hf c32
                            refine lv_lload hx hb dX5_ladder_143 (lv_at hl 0 rfl) ?_
                            refine lv_lload hx hb dX5_ladder_145 (lv_at hl 5 rfl) ?_
                            refine W.lcmp hx hb dX5_ladder_147 ?_
                            refine lv_if_ge (tgt := 155) hx hb dX5_ladder_148 (by decide) (fun c34 => ?_) (fun c34 => ?_)
                            · have hf := it hf c34
                              obtain ⟨x35, ex35⟩ : ∃ y : Int32, y = x14 + 1 := ⟨_, rfl⟩
                              have hf := bd_s hf ex35
                              refine lv_iinc (v := x35) (lv' := [(8, .int x35), (9, .long v31), (0, .ref hm), (2, .int a1), (3, .long x6), (5, .int x7), (6, .long x13)]) hx hb dX5_ladder_155 hl (k := 6) rfl (by rw [ex35]; rfl) (by decide) rfl (fun ls hl => ?_)
                              refine lv_goto (tgt := 54) hx hb dX5_ladder_158 (by decide) ?_
                              exact ih17 x13 x35 ls (lv_sub hl [2, 3, 4, 5, 6, 0] rfl) hf
                            · have hf := ie hf c34
                              refine lv_lload hx hb dX5_ladder_151 (lv_at hl 0 rfl) ?_
                              refine lv_lstore (lv' := [(6, .long v31), (9, .long v31), (0, .ref hm), (2, .int a1), (3, .long x6), (5, .int x7), (8, .int x14)]) hx hb dX5_ladder_153 hl (by decide) rfl (fun ls hl => ?_)
                              obtain ⟨x36, ex36⟩ : ∃ y : Int32, y = x14 + 1 := ⟨_, rfl⟩
                              have hf := bd_s hf ex36
                              refine lv_iinc (v := x36) (lv' := [(8, .int x36), (6, .long v31), (9, .long v31), (0, .ref hm), (2, .int a1), (3, .long x6), (5, .int x7)]) hx hb dX5_ladder_155 hl (k := 6) rfl (by rw [ex36]; rfl) (by decide) rfl (fun ls hl => ?_)
                              refine lv_goto (tgt := 54) hx hb dX5_ladder_158 (by decide) ?_
                              exact ih17 v31 x36 ls (lv_sub hl [3, 4, 5, 6, 1, 0] rfl) hf
                        · have hf := ie hf c30
                          refine lv_goto (tgt := 155) hx hb dX5_ladder_119 (by decide) ?_
                          obtain ⟨x37, ex37⟩ : ∃ y : Int32, y = x14 + 1 := ⟨_, rfl⟩
                          have hf := bd_s hf ex37
                          refine lv_iinc (v := x37) (lv' := [(8, .int x37), (0, .ref hm), (2, .int a1), (3, .long x6), (5, .int x7), (6, .long x13)]) hx hb dX5_ladder_155 hl (k := 5) rfl (by rw [ex37]; rfl) (by decide) rfl (fun ls hl => ?_)
                          refine lv_goto (tgt := 54) hx hb dX5_ladder_158 (by decide) ?_
                          exact ih17 x13 x37 ls (lv_sub hl [1, 2, 3, 4, 5, 0] rfl) hf
            exact LP54 N x12 0 ls (lv_sub hl [2, 3, 4, 5, 1, 0] rfl) hf
      exact LP40 N 0 a0 ls (lv_sub hl [2, 4, 1, 0] rfl) hf
    · have hf := it hf c5
      refine lv_aload_n hx hb dX5_ladder_29 rfl (lv_at hl 0 rfl) ?_
      refine lv_iconst (v := 1) hx hb dX5_ladder_30 (by decide) ?_
      obtain ⟨v44, hv44, hf⟩ := ob hf
      have hPc := hP.sub (ws' := [eM hm mh mo my mp (va_up M 0 (0 : Int32)) mc, eH cI mh mhol, eO cI mo mof, eY cI my mdy, eP cJ mp mpd]) [0, 1, 2, 3, 4] rfl
      have hDc := hD.sub (ws' := [eM hm mh mo my mp (va_up M 0 (0 : Int32)) mc, eH cI mh mhol, eO cI mo mof, eY cI my mdy, eP cJ mp mpd]) [0, 1, 2, 3, 4] (by decide) rfl
      have hFc := va_free (wc := [eM hm mh mo my mp (va_up M 0 (0 : Int32)) mc, eH cI mh mhol, eO cI mo mof, eY cI my mdy, eP cJ mp mpd]) hD hS hA [0, 1, 2, 3, 4] rfl
      refine va_calli (va_runV (As := [.int 1]) (rest := []) ⟨hx, hb, hml, hown, hts⟩ (m_X5_no l D cI cJ cO hm mh mo my mp (va_up M 0 (0 : Int32)) mc mhol mof mdy mpd H.size 1 v44 hv44) (cwV 1 hts gX5_ladder_X5_no rfl rfl rfl (by decide +kernel) ⟨(Nat.le_of_ble_eq_true rfl), (Nat.le_of_ble_eq_true rfl)⟩) ⟨mp_blind, va_recv hK hP (ci := 4) (q0 := 0) rfl rfl, fun U hU hW => ⟨rfl, mp_at hZ hS hPc hK hDc hFc hU hW (Or.inr rfl)⟩⟩ rfl rfl hl.1 rfl (lv_room (Nat.le_of_ble_eq_true rfl)) dX5_ladder_31 ⟨(Nat.le_of_ble_eq_true rfl), (Nat.le_of_ble_eq_true rfl)⟩) hS (fun q _ h => hFc q h) hFc (fun rv44 u t H1 locs ht9 hvm hw hBx hz1 hk1 hS => ?_)
      subst hw
      obtain ⟨hP1, hD1⟩ := hBx
      rw [ht9] at hP1
      obtain ⟨hP, hD⟩ := va_join (wr := []) (w1 := [eM hm mh mo my mp v44.2 mc, eH cI mh mhol, eO cI mo mof, eY cI my mdy, eP cJ mp mpd]) hP hD [0, 1, 2, 3, 4] [] rfl rfl (by decide) (by decide) hk1 hFc hP1 hD1
      have hP := hP.sub (ws' := [eM hm mh mo my mp v44.2 mc, eH cI mh mhol, eO cI mo mof, eY cI my mdy, eP cJ mp mpd]) [0, 1, 2, 3, 4] rfl
      have hD := hD.sub (ws' := [eM hm mh mo my mp v44.2 mc, eH cI mh mhol, eO cI mo mof, eY cI my mdy, eP cJ mp mpd]) [0, 1, 2, 3, 4] (by decide) rfl
      generalize H1 = H at hP hS ⊢
      refine W.widen (k := 0) (n := 0) (Nat.le_of_ble_eq_true rfl) (Nat.le_of_ble_eq_true rfl) ?_
      have e9 := Option.some.inj hf
      subst e9
      exact W.iret hx hb hr (fun t ht hW => ⟨⟨_, (), rfl, rfl, by rw [ht]; exact hP, hD⟩, hS.F ht⟩) hS.2.2 dX5_ladder_34
theorem inX5_best_X5 : ∀ w ∈ wsX50, w ∈ wsX5_best := by decide +kernel
set_option maxHeartbeats 4000000 in
set_option maxRecDepth 100000 in
theorem m_X5_best (l : Launch) (D : va_G) (cI cJ cO : ClassId) (hm : Nat) (mh : Nat) (mo : Nat) (my : Nat) (mp : Nat) (M : Nat → Int32) (mc : Int64) (mhol : Nat → Int32) (mof : Nat → Int32) (mdy : Nat → Int32) (mpd : Nat → Int64) (sz : Nat) (a0 : Int32) (N : Nat) (r : Int32 × (Nat → Int32)) (hf : f_X5_best N M mof mdy a0 = some r) : Met l yX5_best wsX5_best ({ frames := 7, cells := 0, slots := 0, locals := 178 }) (va_Pc [.ref hm, .int a0] (mP D (ty3 cI cJ cO) none [eM hm mh mo my mp M mc, eH cI mh mhol, eO cI mo mof, eY cI my mdy, eP cJ mp mpd] sz)) (mQi D (va_A [eM hm mh mo my mp M mc, eH cI mh mhol, eO cI mo mof, eY cI my mdy, eP cJ mp mpd] sz) r.1 [eM hm mh mo my mp r.2 mc, eH cI mh mhol, eO cI mo mof, eY cI my mdy, eP cJ mp mpd]) 0 0 (va_A [eM hm mh mo my mp M mc, eH cI mh mhol, eO cI mo mof, eY cI my mdy, eP cJ mp mpd] sz) := by
  refine Met.ofW (cc := cX5_best) (maxL := 6) (ret := (some .int)) (by decide) rfl ?_
  intro p e s m args below meth c s₁ Bd hml hv
  obtain ⟨rfl, hsz, hZ, hP, hK, hD0⟩ := hv
  have hx := Bd.exec
  have hb := Bd.bytes
  have hr := Bd.returns
  have hts := atoms_spec (ws := wsX5_best) Bd.pre
  have hown : s.vm.findClass RX5 = some m.cls := findClass_of_methodNamed Bd.named
  have hlocks := Bd.notSynchronized
  subst hsz
  have hD := hD0.self (sz := s.heap.size)
  generalize hAe : va_A [eM hm mh mo my mp M mc, eH cI mh mhol, eO cI mo mof, eY cI my mdy, eP cJ mp mpd] s.heap.size = A at hD hZ ⊢
  have hA : ∀ q : Nat, s.heap.size ≤ q → A q := fun q h => by rw [← hAe]; exact Or.inr h
  have hS : va_S A s.heap s.heap [] := va_S.rf
  have hl := lv_entry ([.ref hm, .int a0]) (n := 6) (Nat.le_of_ble_eq_true rfl)
  rw [lg_entry_eq]
  generalize (lg_sl ([.ref hm, .int a0]) ++ List.replicate (6 - (lg_sl ([.ref hm, .int a0])).length) Slot.unset).toArray = ls at hl ⊢
  have hl : lv_has ls 6 [(0, .ref hm), (1, .int a0)] := hl
  unfold f_X5_best at hf
  refine lv_aload_n hx hb dX5_best_0 rfl (lv_at hl 0 rfl) ?_
  refine lv_iconst (v := 0) hx hb dX5_best_1 (by decide) ?_
  refine va_put (D := D) (ci := 4) (v := .int 0) (ty := .int) (C := RX5) (T := TX5) (N := 10) hx hb hts inX5_best_X5 tyX5 tyX5_ok nmX5 hown hK hP hD hS 0 rfl rfl 0 (by decide) (hts (.fieldLink RX5 41 "BondDeskModel" "thrown" "I") (by decide +kernel)) (fun _ h9 => h9) rfl (by decide +kernel) rfl rfl (Nat.le_of_ble_eq_true rfl) dX5_best_2 (fun H locs hP hD hS => ?_)
  have hP : va_P D vwCl [eM hm mh mo my mp (va_up M 0 (0 : Int32)) mc, eH cI mh mhol, eO cI mo mof, eY cI my mdy, eP cJ mp mpd] H := hP
  have hD : va_D A [eM hm mh mo my mp (va_up M 0 (0 : Int32)) mc, eH cI mh mhol, eO cI mo mof, eY cI my mdy, eP cJ mp mpd] := hD
  refine lv_iload_n hx hb dX5_best_5 rfl (lv_at hl 1 rfl) ?_
  refine lv_iconst (v := 1) hx hb dX5_best_6 (by decide) ?_
  refine lv_sipush (v := 30000) hx hb dX5_best_7 (by decide) ?_
  obtain ⟨v1, hv1, hf⟩ := ob hf
  refine cSz (W.runS (As := [.int a0, .int 1, .int 30000]) (rest := []) ⟨hx, hb, hml, hown, hts⟩ (m_X5_isIn l D cI cJ cO a0 1 30000 v1 hv1) (va_cwS 3 hts gX5_best_X5_isIn rfl rfl rfl (by decide +kernel) ⟨(Nat.le_of_ble_eq_true rfl), (Nat.le_of_ble_eq_true rfl)⟩) ⟨pw_blind, fun U hU hW => ⟨rfl, pw_at hZ hS hP hK hU hW (Or.inr rfl) [] rfl⟩⟩ rfl rfl hl.1 rfl (lv_room (Nat.le_of_ble_eq_true rfl)) dX5_best_10 ⟨(Nat.le_of_ble_eq_true rfl), (Nat.le_of_ble_eq_true rfl)⟩) (fun zv1 => ?_)
  refine lv_if_ne (tgt := 22) hx hb dX5_best_13 (by decide) (fun c2 => ?_) (fun c2 => ?_)
  · have hf := ie hf c2
    refine lv_iconst (v := (-1)) hx hb dX5_best_22 (by decide) ?_
    refine lv_topi (fun x3 ex3 => ?_)
    have hf := bd_s hf ex3
    refine lv_istore_n (lv' := [(2, .int x3), (0, .ref hm), (1, .int a0)]) hx hb dX5_best_23 rfl hl (by decide) rfl (fun ls hl => ?_)
    refine lv_iconst (v := (-1)) hx hb dX5_best_24 (by decide) ?_
    refine lv_topi (fun x4 ex4 => ?_)
    have hf := bd_s hf ex4
    refine lv_istore_n (lv' := [(3, .int x4), (2, .int x3), (0, .ref hm), (1, .int a0)]) hx hb dX5_best_25 rfl hl (by decide) rfl (fun ls hl => ?_)
    refine lv_iconst (v := 0) hx hb dX5_best_26 (by decide) ?_
    refine lv_istore (lv' := [(4, .int 0), (3, .int x4), (2, .int x3), (0, .ref hm), (1, .int a0)]) hx hb dX5_best_27 hl (by decide) rfl (fun ls hl => ?_)
    have LP29 : ∀ (n8 : Nat) (x5 : Int32) (x6 : Int32) (x7 : Int32) (ls : Array Slot), lv_has ls 6 [(0, .ref hm), (1, .int a0), (2, .int x5), (3, .int x6), (4, .int x7)] → f_X5_best_L29 M mof N mdy a0 n8 x5 x6 x7 = some r → W p l e (headSpec wsX5_best ({ frames := 7, cells := 0, slots := 0, locals := 178 })).room s m ([.ref hm, .int a0] : List Value).toArray below meth c H locs 0 0 (MQ below (mQi D A r.1 [eM hm mh mo my mp r.2 mc, eH cI mh mhol, eO cI mo mof, eY cI my mdy, eP cJ mp mpd]) ([.ref hm, .int a0] : List Value).toArray s 0 0 A) (F0 m 29 ls []) := by
      intro n8
      induction n8 with
      | zero => intro x5 x6 x7 ls hl hf; exact (no_s hf).elim
      | succ n8 ih8 =>
        intro x5 x6 x7 ls hl hf
        rw [f_X5_best_L29] at hf
        refine lv_iload hx hb dX5_best_29 (lv_at hl 4 rfl) ?_
        refine lv_aload_n hx hb dX5_best_31 rfl (lv_at hl 0 rfl) ?_
        refine va_get (D := D) (ci := 4) (v := .int (M 4)) (C := RX5) (T := TX5) (N := 10) hx hb hts inX5_best_X5 hown hK hP 0 rfl rfl 4 (by decide) (hts (.fieldLink RX5 77 "BondDeskModel" "bonds" "I") (by decide +kernel)) (fun _ h9 => h9) rfl dX5_best_32 ?_
        refine lv_icmp_ge (tgt := 86) hx hb dX5_best_35 (by decide) (fun c9 => ?_) (fun c9 => ?_)
        · have hf := it hf c9
          refine lv_iload_n hx hb dX5_best_86 rfl (lv_at hl 2 rfl) ?_
          refine W.widen (k := 0) (n := 0) (Nat.le_of_ble_eq_true rfl) (Nat.le_of_ble_eq_true rfl) ?_
          have e9 := Option.some.inj hf
          subst e9
          exact W.iret hx hb hr (fun t ht hW => ⟨⟨_, (), rfl, rfl, by rw [ht]; exact hP, hD⟩, hS.F ht⟩) hS.2.2 dX5_best_87
        · have hf := ie hf c9
          refine lv_aload_n hx hb dX5_best_38 rfl (lv_at hl 0 rfl) ?_
          refine lv_iload hx hb dX5_best_39 (lv_at hl 4 rfl) ?_
          refine lv_iconst (v := 0) hx hb dX5_best_41 (by decide) ?_
          obtain ⟨v10, hv10, hf⟩ := ob hf
          refine cSi (W.runV (As := [.int x7, .int 0]) (rest := []) ⟨hx, hb, hml, hown, hts⟩ (m_X5_own l D cI cJ cO hm mh mo my mp (va_up M 0 (0 : Int32)) mc mhol mof mdy mpd x7 0 v10 hv10) (cwV 2 hts gX5_best_X5_own rfl rfl rfl (by decide +kernel) ⟨(Nat.le_of_ble_eq_true rfl), (Nat.le_of_ble_eq_true rfl)⟩) ⟨pw_blind, va_recv hK hP (ci := 4) (q0 := 0) rfl rfl, fun U hU hW => ⟨rfl, pw_at hZ hS hP hK hU hW (Or.inr rfl) [0, 1, 2, 3, 4] rfl⟩⟩ rfl rfl hl.1 rfl (lv_room (Nat.le_of_ble_eq_true rfl)) dX5_best_42 ⟨(Nat.le_of_ble_eq_true rfl), (Nat.le_of_ble_eq_true rfl)⟩) ?_
          refine lv_aload_n hx hb dX5_best_45 rfl (lv_at hl 0 rfl) ?_
          refine va_get (D := D) (ci := 4) (v := .int (M 1)) (C := RX5) (T := TX5) (N := 10) hx hb hts inX5_best_X5 hown hK hP 0 rfl rfl 1 (by decide) (hts (.fieldLink RX5 14 "BondDeskModel" "today" "I") (by decide +kernel)) (fun _ h9 => h9) rfl dX5_best_46 ?_
          obtain ⟨K11, hK11, hf⟩ := jn_s hf
          have JK11 : ∀ (x12 : Int32) (ls : Array Slot), lv_has ls 6 [(0, .ref hm), (1, .int a0), (2, .int x5), (3, .int x6), (4, .int x7)] → K11 x12 = some r → W p l e (headSpec wsX5_best ({ frames := 7, cells := 0, slots := 0, locals := 178 })).room s m ([.ref hm, .int a0] : List Value).toArray below meth c H locs 0 0 (MQ below (mQi D A r.1 [eM hm mh mo my mp r.2 mc, eH cI mh mhol, eO cI mo mof, eY cI my mdy, eP cJ mp mpd]) ([.ref hm, .int a0] : List Value).toArray s 0 0 A) (F0 m 63 ls [.int x12]) := by
            intro x12 ls hl hf
            rw [hK11] at hf
            refine lv_istore (lv' := [(5, .int x12), (0, .ref hm), (1, .int a0), (2, .int x5), (3, .int x6), (4, .int x7)]) hx hb dX5_best_63 hl (by decide) rfl (fun ls hl => ?_)
            refine lv_iload hx hb dX5_best_65 (lv_at hl 0 rfl) ?_
            refine lv_iload_n hx hb dX5_best_67 rfl (lv_at hl 4 rfl) ?_
            refine lv_icmp_gt (tgt := 74) hx hb dX5_best_68 (by decide) (fun c13 => ?_) (fun c13 => ?_)
            · have hf := it hf c13
              refine lv_iload hx hb dX5_best_74 (lv_at hl 5 rfl) ?_
              refine lv_istore_n (lv' := [(2, .int x7), (5, .int x12), (0, .ref hm), (1, .int a0), (3, .int x6), (4, .int x7)]) hx hb dX5_best_76 rfl hl (by decide) rfl (fun ls hl => ?_)
              refine lv_iload hx hb dX5_best_77 (lv_at hl 1 rfl) ?_
              refine lv_istore_n (lv' := [(3, .int x12), (2, .int x7), (5, .int x12), (0, .ref hm), (1, .int a0), (4, .int x7)]) hx hb dX5_best_79 rfl hl (by decide) rfl (fun ls hl => ?_)
              obtain ⟨x14, ex14⟩ : ∃ y : Int32, y = x7 + 1 := ⟨_, rfl⟩
              have hf := bd_s hf ex14
              refine lv_iinc (v := x14) (lv' := [(4, .int x14), (3, .int x12), (2, .int x7), (5, .int x12), (0, .ref hm), (1, .int a0)]) hx hb dX5_best_80 hl (k := 5) rfl (by rw [ex14]; rfl) (by decide) rfl (fun ls hl => ?_)
              refine lv_goto (tgt := 29) hx hb dX5_best_83 (by decide) ?_
              exact ih8 x7 x12 x14 ls (lv_sub hl [4, 5, 2, 1, 0] rfl) hf
            · have hf := ie hf c13
              refine lv_goto (tgt := 80) hx hb dX5_best_71 (by decide) ?_
              obtain ⟨x15, ex15⟩ : ∃ y : Int32, y = x7 + 1 := ⟨_, rfl⟩
              have hf := bd_s hf ex15
              refine lv_iinc (v := x15) (lv' := [(4, .int x15), (5, .int x12), (0, .ref hm), (1, .int a0), (2, .int x5), (3, .int x6)]) hx hb dX5_best_80 hl (k := 5) rfl (by rw [ex15]; rfl) (by decide) rfl (fun ls hl => ?_)
              refine lv_goto (tgt := 29) hx hb dX5_best_83 (by decide) ?_
              exact ih8 x5 x6 x15 ls (lv_sub hl [2, 3, 4, 5, 0] rfl) hf
          refine lv_icmp_le (tgt := 56) hx hb dX5_best_49 (by decide) (fun c16 => ?_) (fun c16 => ?_)
          · have hf := it hf c16
            refine lv_aload_n hx hb dX5_best_56 rfl (lv_at hl 0 rfl) ?_
            refine lv_iload hx hb dX5_best_57 (lv_at hl 4 rfl) ?_
            refine lv_iload_n hx hb dX5_best_59 rfl (lv_at hl 1 rfl) ?_
            obtain ⟨v17, hv17, hf⟩ := ob hf
            refine cSi (W.runV (As := [.int x7, .int a0]) (rest := []) ⟨hx, hb, hml, hown, hts⟩ (m_X5_yielded l D cI cJ cO hm mh mo my mp (va_up M 0 (0 : Int32)) mc mhol mof mdy mpd x7 a0 N v17 hv17) (cwV 2 hts gX5_best_X5_yielded rfl rfl rfl (by decide +kernel) ⟨(Nat.le_of_ble_eq_true rfl), (Nat.le_of_ble_eq_true rfl)⟩) ⟨pw_blind, va_recv hK hP (ci := 4) (q0 := 0) rfl rfl, fun U hU hW => ⟨rfl, pw_at hZ hS hP hK hU hW (Or.inr rfl) [0, 1, 2, 3, 4] rfl⟩⟩ rfl rfl hl.1 rfl (lv_room (Nat.le_of_ble_eq_true rfl)) dX5_best_60 ⟨(Nat.le_of_ble_eq_true rfl), (Nat.le_of_ble_eq_true rfl)⟩) ?_
            exact JK11 v17 ls (lv_sub hl [0, 1, 2, 3, 4] rfl) hf
          · have hf := ie hf c16
            refine lv_iconst (v := (-1)) hx hb dX5_best_52 (by decide) ?_
            refine lv_goto (tgt := 63) hx hb dX5_best_53 (by decide) ?_
            exact JK11 (-1) ls (lv_sub hl [0, 1, 2, 3, 4] rfl) hf
    exact LP29 N x3 x4 0 ls (lv_sub hl [3, 4, 2, 1, 0] rfl) hf
  · have hf := it hf c2
    refine lv_aload_n hx hb dX5_best_16 rfl (lv_at hl 0 rfl) ?_
    refine lv_iconst (v := 1) hx hb dX5_best_17 (by decide) ?_
    obtain ⟨v18, hv18, hf⟩ := ob hf
    have hPc := hP.sub (ws' := [eM hm mh mo my mp (va_up M 0 (0 : Int32)) mc, eH cI mh mhol, eO cI mo mof, eY cI my mdy, eP cJ mp mpd]) [0, 1, 2, 3, 4] rfl
    have hDc := hD.sub (ws' := [eM hm mh mo my mp (va_up M 0 (0 : Int32)) mc, eH cI mh mhol, eO cI mo mof, eY cI my mdy, eP cJ mp mpd]) [0, 1, 2, 3, 4] (by decide) rfl
    have hFc := va_free (wc := [eM hm mh mo my mp (va_up M 0 (0 : Int32)) mc, eH cI mh mhol, eO cI mo mof, eY cI my mdy, eP cJ mp mpd]) hD hS hA [0, 1, 2, 3, 4] rfl
    refine va_calli (va_runV (As := [.int 1]) (rest := []) ⟨hx, hb, hml, hown, hts⟩ (m_X5_no l D cI cJ cO hm mh mo my mp (va_up M 0 (0 : Int32)) mc mhol mof mdy mpd H.size 1 v18 hv18) (cwV 1 hts gX5_best_X5_no rfl rfl rfl (by decide +kernel) ⟨(Nat.le_of_ble_eq_true rfl), (Nat.le_of_ble_eq_true rfl)⟩) ⟨mp_blind, va_recv hK hP (ci := 4) (q0 := 0) rfl rfl, fun U hU hW => ⟨rfl, mp_at hZ hS hPc hK hDc hFc hU hW (Or.inr rfl)⟩⟩ rfl rfl hl.1 rfl (lv_room (Nat.le_of_ble_eq_true rfl)) dX5_best_18 ⟨(Nat.le_of_ble_eq_true rfl), (Nat.le_of_ble_eq_true rfl)⟩) hS (fun q _ h => hFc q h) hFc (fun rv18 u t H1 locs ht9 hvm hw hBx hz1 hk1 hS => ?_)
    subst hw
    obtain ⟨hP1, hD1⟩ := hBx
    rw [ht9] at hP1
    obtain ⟨hP, hD⟩ := va_join (wr := []) (w1 := [eM hm mh mo my mp v18.2 mc, eH cI mh mhol, eO cI mo mof, eY cI my mdy, eP cJ mp mpd]) hP hD [0, 1, 2, 3, 4] [] rfl rfl (by decide) (by decide) hk1 hFc hP1 hD1
    have hP := hP.sub (ws' := [eM hm mh mo my mp v18.2 mc, eH cI mh mhol, eO cI mo mof, eY cI my mdy, eP cJ mp mpd]) [0, 1, 2, 3, 4] rfl
    have hD := hD.sub (ws' := [eM hm mh mo my mp v18.2 mc, eH cI mh mhol, eO cI mo mof, eY cI my mdy, eP cJ mp mpd]) [0, 1, 2, 3, 4] (by decide) rfl
    generalize H1 = H at hP hS ⊢
    refine W.widen (k := 0) (n := 0) (Nat.le_of_ble_eq_true rfl) (Nat.le_of_ble_eq_true rfl) ?_
    have e9 := Option.some.inj hf
    subst e9
    exact W.iret hx hb hr (fun t ht hW => ⟨⟨_, (), rfl, rfl, by rw [ht]; exact hP, hD⟩, hS.F ht⟩) hS.2.2 dX5_best_21
theorem inX5_digest_X5 : ∀ w ∈ wsX50, w ∈ wsX5_digest := by decide +kernel
set_option maxHeartbeats 4000000 in
set_option maxRecDepth 100000 in
theorem m_X5_digest (l : Launch) (D : va_G) (cI cJ cO : ClassId) (hm : Nat) (mh : Nat) (mo : Nat) (my : Nat) (mp : Nat) (M : Nat → Int32) (mc : Int64) (mhol : Nat → Int32) (mof : Nat → Int32) (mdy : Nat → Int32) (mpd : Nat → Int64) (sz : Nat) (N : Nat) (r : Int64 × (Nat → Int32)) (hf : f_X5_digest N M mc mhol mof mdy mpd = some r) : Met l yX5_digest wsX5_digest ({ frames := 7, cells := 0, slots := 0, locals := 179 }) (va_Pc [.ref hm] (mP D (ty3 cI cJ cO) none [eM hm mh mo my mp M mc, eH cI mh mhol, eO cI mo mof, eY cI my mdy, eP cJ mp mpd] sz)) (mQl D (va_A [eM hm mh mo my mp M mc, eH cI mh mhol, eO cI mo mof, eY cI my mdy, eP cJ mp mpd] sz) r.1 [eM hm mh mo my mp r.2 mc, eH cI mh mhol, eO cI mo mof, eY cI my mdy, eP cJ mp mpd]) 0 0 (va_A [eM hm mh mo my mp M mc, eH cI mh mhol, eO cI mo mof, eY cI my mdy, eP cJ mp mpd] sz) := by
  refine Met.ofW (cc := cX5_digest) (maxL := 5) (ret := (some .long)) (by decide) rfl ?_
  intro p e s m args below meth c s₁ Bd hml hv
  obtain ⟨rfl, hsz, hZ, hP, hK, hD0⟩ := hv
  have hx := Bd.exec
  have hb := Bd.bytes
  have hr := Bd.returns
  have hts := atoms_spec (ws := wsX5_digest) Bd.pre
  have hown : s.vm.findClass RX5 = some m.cls := findClass_of_methodNamed Bd.named
  have hlocks := Bd.notSynchronized
  subst hsz
  have hD := hD0.self (sz := s.heap.size)
  generalize hAe : va_A [eM hm mh mo my mp M mc, eH cI mh mhol, eO cI mo mof, eY cI my mdy, eP cJ mp mpd] s.heap.size = A at hD hZ ⊢
  have hA : ∀ q : Nat, s.heap.size ≤ q → A q := fun q h => by rw [← hAe]; exact Or.inr h
  have hS : va_S A s.heap s.heap [] := va_S.rf
  have hl := lv_entry ([.ref hm]) (n := 5) (Nat.le_of_ble_eq_true rfl)
  rw [lg_entry_eq]
  generalize (lg_sl ([.ref hm]) ++ List.replicate (5 - (lg_sl ([.ref hm])).length) Slot.unset).toArray = ls at hl ⊢
  have hl : lv_has ls 5 [(0, .ref hm)] := hl
  unfold f_X5_digest at hf
  refine lv_aload_n hx hb dX5_digest_0 rfl (lv_at hl 0 rfl) ?_
  refine lv_iconst (v := 0) hx hb dX5_digest_1 (by decide) ?_
  refine va_put (D := D) (ci := 4) (v := .int 0) (ty := .int) (C := RX5) (T := TX5) (N := 10) hx hb hts inX5_digest_X5 tyX5 tyX5_ok nmX5 hown hK hP hD hS 0 rfl rfl 0 (by decide) (hts (.fieldLink RX5 41 "BondDeskModel" "thrown" "I") (by decide +kernel)) (fun _ h9 => h9) rfl (by decide +kernel) rfl rfl (Nat.le_of_ble_eq_true rfl) dX5_digest_2 (fun H locs hP hD hS => ?_)
  have hP : va_P D vwCl [eM hm mh mo my mp (va_up M 0 (0 : Int32)) mc, eH cI mh mhol, eO cI mo mof, eY cI my mdy, eP cJ mp mpd] H := hP
  have hD : va_D A [eM hm mh mo my mp (va_up M 0 (0 : Int32)) mc, eH cI mh mhol, eO cI mo mof, eY cI my mdy, eP cJ mp mpd] := hD
  refine lv_ldc2 hx hb hown (hts (.constantLong RX5 204 (647)) (by decide +kernel)) dX5_digest_5 ?_
  refine lv_lstore_n (lv' := [(1, .long 647), (0, .ref hm)]) hx hb dX5_digest_8 rfl hl (by decide) rfl (fun ls hl => ?_)
  refine lv_iconst (v := 0) hx hb dX5_digest_9 (by decide) ?_
  refine lv_istore_n (lv' := [(3, .int 0), (1, .long 647), (0, .ref hm)]) hx hb dX5_digest_10 rfl hl (by decide) rfl (fun ls hl => ?_)
  obtain ⟨K3, hK3, hf⟩ := kx_s (P := fun k => f_X5_digest_L11 N M mc mof mdy mpd k N 647 0 = some r) hf
  have JK3 : ∀ (x4 : Int64) (ls : Array Slot), lv_has ls 5 [(0, .ref hm), (1, .long x4)] → K3 x4 = some r → W p l e (headSpec wsX5_digest ({ frames := 7, cells := 0, slots := 0, locals := 179 })).room s m ([.ref hm] : List Value).toArray below meth c H locs 0 0 (MQ below (mQl D A r.1 [eM hm mh mo my mp r.2 mc, eH cI mh mhol, eO cI mo mof, eY cI my mdy, eP cJ mp mpd]) ([.ref hm] : List Value).toArray s 0 0 A) (F0 m 35 ls []) := by
    intro x4 ls hl hf
    rw [hK3] at hf
    refine lv_iconst (v := 0) hx hb dX5_digest_35 (by decide) ?_
    refine lv_istore_n (lv' := [(3, .int 0), (0, .ref hm), (1, .long x4)]) hx hb dX5_digest_36 rfl hl (by decide) rfl (fun ls hl => ?_)
    obtain ⟨K12, hK12, hf⟩ := kx_s (P := fun k => f_X5_digest_L37 M N mhol k N x4 0 = some r) hf
    have JK12 : ∀ (x13 : Int64) (ls : Array Slot), lv_has ls 5 [(0, .ref hm), (1, .long x13)] → K12 x13 = some r → W p l e (headSpec wsX5_digest ({ frames := 7, cells := 0, slots := 0, locals := 179 })).room s m ([.ref hm] : List Value).toArray below meth c H locs 0 0 (MQ below (mQl D A r.1 [eM hm mh mo my mp r.2 mc, eH cI mh mhol, eO cI mo mof, eY cI my mdy, eP cJ mp mpd]) ([.ref hm] : List Value).toArray s 0 0 A) (F0 m 68 ls []) := by
      intro x13 ls hl hf
      rw [hK12] at hf
      refine lv_iconst (v := 0) hx hb dX5_digest_68 (by decide) ?_
      refine lv_istore_n (lv' := [(3, .int 0), (0, .ref hm), (1, .long x13)]) hx hb dX5_digest_69 rfl hl (by decide) rfl (fun ls hl => ?_)
      have LP70 : ∀ (n22 : Nat) (x20 : Int64) (x21 : Int32) (ls : Array Slot), lv_has ls 5 [(0, .ref hm), (1, .long x20), (3, .int x21)] → f_X5_digest_L70 M N mof mdy mhol n22 x20 x21 = some r → W p l e (headSpec wsX5_digest ({ frames := 7, cells := 0, slots := 0, locals := 179 })).room s m ([.ref hm] : List Value).toArray below meth c H locs 0 0 (MQ below (mQl D A r.1 [eM hm mh mo my mp r.2 mc, eH cI mh mhol, eO cI mo mof, eY cI my mdy, eP cJ mp mpd]) ([.ref hm] : List Value).toArray s 0 0 A) (F0 m 70 ls []) := by
        intro n22
        induction n22 with
        | zero => intro x20 x21 ls hl hf; exact (no_s hf).elim
        | succ n22 ih22 =>
          intro x20 x21 ls hl hf
          rw [f_X5_digest_L70] at hf
          refine lv_iload_n hx hb dX5_digest_70 rfl (lv_at hl 2 rfl) ?_
          refine lv_aload_n hx hb dX5_digest_71 rfl (lv_at hl 0 rfl) ?_
          refine va_get (D := D) (ci := 4) (v := .int (M 4)) (C := RX5) (T := TX5) (N := 10) hx hb hts inX5_digest_X5 hown hK hP 0 rfl rfl 4 (by decide) (hts (.fieldLink RX5 77 "BondDeskModel" "bonds" "I") (by decide +kernel)) (fun _ h9 => h9) rfl dX5_digest_72 ?_
          refine lv_icmp_ge (tgt := 183) hx hb dX5_digest_75 (by decide) (fun c23 => ?_) (fun c23 => ?_)
          · have hf := it hf c23
            refine lv_lload_n hx hb dX5_digest_183 rfl (lv_at hl 1 rfl) ?_
            refine W.widen (k := 0) (n := 0) (Nat.le_of_ble_eq_true rfl) (Nat.le_of_ble_eq_true rfl) ?_
            have e9 := Option.some.inj hf
            subst e9
            exact W.lret hx hb hr (fun t ht hW => ⟨⟨_, (), rfl, rfl, by rw [ht]; exact hP, hD⟩, hS.F ht⟩) hS.2.2 dX5_digest_184
          · have hf := ie hf c23
            refine lv_iconst (v := 0) hx hb dX5_digest_78 (by decide) ?_
            refine lv_istore (lv' := [(4, .int 0), (0, .ref hm), (1, .long x20), (3, .int x21)]) hx hb dX5_digest_79 hl (by decide) rfl (fun ls hl => ?_)
            obtain ⟨K26, hK26, hf⟩ := kx_s (P := fun k => f_X5_digest_L81 N mof x21 k N x20 0 = some r) hf
            have JK26 : ∀ (x27 : Int64) (ls : Array Slot), lv_has ls 5 [(0, .ref hm), (1, .long x27), (3, .int x21)] → K26 x27 = some r → W p l e (headSpec wsX5_digest ({ frames := 7, cells := 0, slots := 0, locals := 179 })).room s m ([.ref hm] : List Value).toArray below meth c H locs 0 0 (MQ below (mQl D A r.1 [eM hm mh mo my mp r.2 mc, eH cI mh mhol, eO cI mo mof, eY cI my mdy, eP cJ mp mpd]) ([.ref hm] : List Value).toArray s 0 0 A) (F0 m 109 ls []) := by
              intro x27 ls hl hf
              rw [hK26] at hf
              refine lv_lload_n hx hb dX5_digest_109 rfl (lv_at hl 1 rfl) ?_
              refine lv_ldc2 hx hb hown (hts (.constantLong RX5 206 (31)) (by decide +kernel)) dX5_digest_110 ?_
              refine lv_lmul hx hb dX5_digest_113 ?_
              refine lv_aload_n hx hb dX5_digest_114 rfl (lv_at hl 0 rfl) ?_
              refine lv_iload_n hx hb dX5_digest_115 rfl (lv_at hl 2 rfl) ?_
              refine lv_aload_n hx hb dX5_digest_116 rfl (lv_at hl 0 rfl) ?_
              refine va_get (D := D) (ci := 4) (v := .int (M 1)) (C := RX5) (T := TX5) (N := 10) hx hb hts inX5_digest_X5 hown hK hP 0 rfl rfl 1 (by decide) (hts (.fieldLink RX5 14 "BondDeskModel" "today" "I") (by decide +kernel)) (fun _ h9 => h9) rfl dX5_digest_117 ?_
              obtain ⟨v33, hv33, hf⟩ := ob hf
              refine cSi (W.runV (As := [.int x21, .int (M 1)]) (rest := [.long (x27 * 31)]) ⟨hx, hb, hml, hown, hts⟩ (m_X5_accruedOn l D cI cJ cO hm mh mo my mp (va_up M 0 (0 : Int32)) mc mhol mof mdy mpd x21 (M 1) N v33 hv33) (cwV 2 hts gX5_digest_X5_accruedOn rfl rfl rfl (by decide +kernel) ⟨(Nat.le_of_ble_eq_true rfl), (Nat.le_of_ble_eq_true rfl)⟩) ⟨pw_blind, va_recv hK hP (ci := 4) (q0 := 0) rfl rfl, fun U hU hW => ⟨rfl, pw_at hZ hS hP hK hU hW (Or.inr rfl) [0, 1, 2, 3, 4] rfl⟩⟩ rfl rfl hl.1 rfl (lv_room (Nat.le_of_ble_eq_true rfl)) dX5_digest_120 ⟨(Nat.le_of_ble_eq_true rfl), (Nat.le_of_ble_eq_true rfl)⟩) ?_
              refine lv_i2l hx hb dX5_digest_123 rfl ?_
              refine lv_ladd hx hb dX5_digest_124 ?_
              refine lv_topl (fun x34 ex34 => ?_)
              have hf := bd_s hf ex34
              refine lv_lstore_n (lv' := [(1, .long x34), (0, .ref hm), (3, .int x21)]) hx hb dX5_digest_125 rfl hl (by decide) rfl (fun ls hl => ?_)
              refine lv_iconst (v := 0) hx hb dX5_digest_126 (by decide) ?_
              refine lv_istore (lv' := [(4, .int 0), (1, .long x34), (0, .ref hm), (3, .int x21)]) hx hb dX5_digest_127 hl (by decide) rfl (fun ls hl => ?_)
              obtain ⟨K37, hK37, hf⟩ := kx_s (P := fun k => f_X5_digest_L129 mof x21 N M mhol mdy k N x34 0 = some r) hf
              have JK37 : ∀ (x38 : Int64) (ls : Array Slot), lv_has ls 5 [(0, .ref hm), (1, .long x38), (3, .int x21)] → K37 x38 = some r → W p l e (headSpec wsX5_digest ({ frames := 7, cells := 0, slots := 0, locals := 179 })).room s m ([.ref hm] : List Value).toArray below meth c H locs 0 0 (MQ below (mQl D A r.1 [eM hm mh mo my mp r.2 mc, eH cI mh mhol, eO cI mo mof, eY cI my mdy, eP cJ mp mpd]) ([.ref hm] : List Value).toArray s 0 0 A) (F0 m 177 ls []) := by
                intro x38 ls hl hf
                rw [hK37] at hf
                obtain ⟨x46, ex46⟩ : ∃ y : Int32, y = x21 + 1 := ⟨_, rfl⟩
                have hf := bd_s hf ex46
                refine lv_iinc (v := x46) (lv' := [(3, .int x46), (0, .ref hm), (1, .long x38)]) hx hb dX5_digest_177 hl (k := 2) rfl (by rw [ex46]; rfl) (by decide) rfl (fun ls hl => ?_)
                refine lv_goto (tgt := 70) hx hb dX5_digest_180 (by decide) ?_
                exact ih22 x38 x46 ls (lv_sub hl [1, 2, 0] rfl) hf
              have LP129 : ∀ (n39 : Nat) (x35 : Int64) (x36 : Int32) (ls : Array Slot), lv_has ls 5 [(0, .ref hm), (1, .long x35), (3, .int x21), (4, .int x36)] → f_X5_digest_L129 mof x21 N M mhol mdy K37 n39 x35 x36 = some r → W p l e (headSpec wsX5_digest ({ frames := 7, cells := 0, slots := 0, locals := 179 })).room s m ([.ref hm] : List Value).toArray below meth c H locs 0 0 (MQ below (mQl D A r.1 [eM hm mh mo my mp r.2 mc, eH cI mh mhol, eO cI mo mof, eY cI my mdy, eP cJ mp mpd]) ([.ref hm] : List Value).toArray s 0 0 A) (F0 m 129 ls []) := by
                intro n39
                induction n39 with
                | zero => intro x35 x36 ls hl hf; exact (no_s hf).elim
                | succ n39 ih39 =>
                  intro x35 x36 ls hl hf
                  rw [f_X5_digest_L129] at hf
                  refine lv_iload hx hb dX5_digest_129 (lv_at hl 3 rfl) ?_
                  refine lv_aload_n hx hb dX5_digest_131 rfl (lv_at hl 0 rfl) ?_
                  refine lv_iload_n hx hb dX5_digest_132 rfl (lv_at hl 2 rfl) ?_
                  refine lv_bipush (v := 6) hx hb dX5_digest_133 (by decide) ?_
                  obtain ⟨v40, hv40, hf⟩ := ob hf
                  refine cSi (W.runV (As := [.int x21, .int 6]) (rest := [.int x36]) ⟨hx, hb, hml, hown, hts⟩ (m_X5_own l D cI cJ cO hm mh mo my mp (va_up M 0 (0 : Int32)) mc mhol mof mdy mpd x21 6 v40 hv40) (cwV 2 hts gX5_digest_X5_own rfl rfl rfl (by decide +kernel) ⟨(Nat.le_of_ble_eq_true rfl), (Nat.le_of_ble_eq_true rfl)⟩) ⟨pw_blind, va_recv hK hP (ci := 4) (q0 := 0) rfl rfl, fun U hU hW => ⟨rfl, pw_at hZ hS hP hK hU hW (Or.inr rfl) [0, 1, 2, 3, 4] rfl⟩⟩ rfl rfl hl.1 rfl (lv_room (Nat.le_of_ble_eq_true rfl)) dX5_digest_135 ⟨(Nat.le_of_ble_eq_true rfl), (Nat.le_of_ble_eq_true rfl)⟩) ?_
                  refine lv_icmp_ge (tgt := 177) hx hb dX5_digest_138 (by decide) (fun c41 => ?_) (fun c41 => ?_)
                  · have hf := it hf c41
                    exact JK37 x35 ls (lv_sub hl [0, 1, 2] rfl) hf
                  · have hf := ie hf c41
                    refine lv_lload_n hx hb dX5_digest_141 rfl (lv_at hl 1 rfl) ?_
                    refine lv_ldc2 hx hb hown (hts (.constantLong RX5 206 (31)) (by decide +kernel)) dX5_digest_142 ?_
                    refine lv_lmul hx hb dX5_digest_145 ?_
                    refine lv_aload_n hx hb dX5_digest_146 rfl (lv_at hl 0 rfl) ?_
                    refine lv_iload_n hx hb dX5_digest_147 rfl (lv_at hl 2 rfl) ?_
                    refine lv_iload hx hb dX5_digest_148 (lv_at hl 3 rfl) ?_
                    refine lv_iconst (v := 0) hx hb dX5_digest_150 (by decide) ?_
                    obtain ⟨v42, hv42, hf⟩ := ob hf
                    refine cSi (W.runV (As := [.int x21, .int x36, .int 0]) (rest := [.long (x35 * 31)]) ⟨hx, hb, hml, hown, hts⟩ (m_X5_couponTold l D cI cJ cO hm mh mo my mp (va_up M 0 (0 : Int32)) mc mhol mof mdy mpd x21 x36 0 N v42 hv42) (cwV 3 hts gX5_digest_X5_couponTold rfl rfl rfl (by decide +kernel) ⟨(Nat.le_of_ble_eq_true rfl), (Nat.le_of_ble_eq_true rfl)⟩) ⟨pw_blind, va_recv hK hP (ci := 4) (q0 := 0) rfl rfl, fun U hU hW => ⟨rfl, pw_at hZ hS hP hK hU hW (Or.inr rfl) [0, 1, 2, 3, 4] rfl⟩⟩ rfl rfl hl.1 rfl (lv_room (Nat.le_of_ble_eq_true rfl)) dX5_digest_151 ⟨(Nat.le_of_ble_eq_true rfl), (Nat.le_of_ble_eq_true rfl)⟩) ?_
                    refine lv_i2l hx hb dX5_digest_154 rfl ?_
                    refine lv_ladd hx hb dX5_digest_155 ?_
                    refine lv_ldc2 hx hb hown (hts (.constantLong RX5 206 (31)) (by decide +kernel)) dX5_digest_156 ?_
                    refine lv_lmul hx hb dX5_digest_159 ?_
                    refine lv_aload_n hx hb dX5_digest_160 rfl (lv_at hl 0 rfl) ?_
                    refine lv_iload_n hx hb dX5_digest_161 rfl (lv_at hl 2 rfl) ?_
                    refine lv_iload hx hb dX5_digest_162 (lv_at hl 3 rfl) ?_
                    refine lv_iconst (v := 3) hx hb dX5_digest_164 (by decide) ?_
                    obtain ⟨v43, hv43, hf⟩ := ob hf
                    refine cSi (W.runV (As := [.int x21, .int x36, .int 3]) (rest := [.long (((x35 * 31) + v42.toInt64) * 31)]) ⟨hx, hb, hml, hown, hts⟩ (m_X5_couponTold l D cI cJ cO hm mh mo my mp (va_up M 0 (0 : Int32)) mc mhol mof mdy mpd x21 x36 3 N v43 hv43) (cwV 3 hts gX5_digest_X5_couponTold rfl rfl rfl (by decide +kernel) ⟨(Nat.le_of_ble_eq_true rfl), (Nat.le_of_ble_eq_true rfl)⟩) ⟨pw_blind, va_recv hK hP (ci := 4) (q0 := 0) rfl rfl, fun U hU hW => ⟨rfl, pw_at hZ hS hP hK hU hW (Or.inr rfl) [0, 1, 2, 3, 4] rfl⟩⟩ rfl rfl hl.1 rfl (lv_room (Nat.le_of_ble_eq_true rfl)) dX5_digest_165 ⟨(Nat.le_of_ble_eq_true rfl), (Nat.le_of_ble_eq_true rfl)⟩) ?_
                    refine lv_i2l hx hb dX5_digest_168 rfl ?_
                    refine lv_ladd hx hb dX5_digest_169 ?_
                    refine lv_topl (fun x44 ex44 => ?_)
                    have hf := bd_s hf ex44
                    refine lv_lstore_n (lv' := [(1, .long x44), (0, .ref hm), (3, .int x21), (4, .int x36)]) hx hb dX5_digest_170 rfl hl (by decide) rfl (fun ls hl => ?_)
                    obtain ⟨x45, ex45⟩ : ∃ y : Int32, y = x36 + 1 := ⟨_, rfl⟩
                    have hf := bd_s hf ex45
                    refine lv_iinc (v := x45) (lv' := [(4, .int x45), (1, .long x44), (0, .ref hm), (3, .int x21)]) hx hb dX5_digest_171 hl (k := 3) rfl (by rw [ex45]; rfl) (by decide) rfl (fun ls hl => ?_)
                    refine lv_goto (tgt := 129) hx hb dX5_digest_174 (by decide) ?_
                    exact ih39 x44 x45 ls (lv_sub hl [2, 1, 3, 0] rfl) hf
              exact LP129 N x34 0 ls (lv_sub hl [2, 1, 3, 0] rfl) hf
            have LP81 : ∀ (n28 : Nat) (x24 : Int64) (x25 : Int32) (ls : Array Slot), lv_has ls 5 [(0, .ref hm), (1, .long x24), (3, .int x21), (4, .int x25)] → f_X5_digest_L81 N mof x21 K26 n28 x24 x25 = some r → W p l e (headSpec wsX5_digest ({ frames := 7, cells := 0, slots := 0, locals := 179 })).room s m ([.ref hm] : List Value).toArray below meth c H locs 0 0 (MQ below (mQl D A r.1 [eM hm mh mo my mp r.2 mc, eH cI mh mhol, eO cI mo mof, eY cI my mdy, eP cJ mp mpd]) ([.ref hm] : List Value).toArray s 0 0 A) (F0 m 81 ls []) := by
              intro n28
              induction n28 with
              | zero => intro x24 x25 ls hl hf; exact (no_s hf).elim
              | succ n28 ih28 =>
                intro x24 x25 ls hl hf
                rw [f_X5_digest_L81] at hf
                refine lv_iload hx hb dX5_digest_81 (lv_at hl 3 rfl) ?_
                refine lv_bipush (v := 10) hx hb dX5_digest_83 (by decide) ?_
                refine lv_icmp_gt (tgt := 109) hx hb dX5_digest_85 (by decide) (fun c29 => ?_) (fun c29 => ?_)
                · have hf := it hf c29
                  exact JK26 x24 ls (lv_sub hl [0, 1, 2] rfl) hf
                · have hf := ie hf c29
                  refine lv_lload_n hx hb dX5_digest_88 rfl (lv_at hl 1 rfl) ?_
                  refine lv_ldc2 hx hb hown (hts (.constantLong RX5 206 (31)) (by decide +kernel)) dX5_digest_89 ?_
                  refine lv_lmul hx hb dX5_digest_92 ?_
                  refine lv_aload_n hx hb dX5_digest_93 rfl (lv_at hl 0 rfl) ?_
                  refine lv_iload_n hx hb dX5_digest_94 rfl (lv_at hl 2 rfl) ?_
                  refine lv_iload hx hb dX5_digest_95 (lv_at hl 3 rfl) ?_
                  obtain ⟨v30, hv30, hf⟩ := ob hf
                  refine cSi (W.runV (As := [.int x21, .int x25]) (rest := [.long (x24 * 31)]) ⟨hx, hb, hml, hown, hts⟩ (m_X5_told l D cI cJ cO hm mh mo my mp (va_up M 0 (0 : Int32)) mc mhol mof mdy mpd x21 x25 N v30 hv30) (cwV 2 hts gX5_digest_X5_told rfl rfl rfl (by decide +kernel) ⟨(Nat.le_of_ble_eq_true rfl), (Nat.le_of_ble_eq_true rfl)⟩) ⟨pw_blind, va_recv hK hP (ci := 4) (q0 := 0) rfl rfl, fun U hU hW => ⟨rfl, pw_at hZ hS hP hK hU hW (Or.inr rfl) [0, 1, 2, 3, 4] rfl⟩⟩ rfl rfl hl.1 rfl (lv_room (Nat.le_of_ble_eq_true rfl)) dX5_digest_97 ⟨(Nat.le_of_ble_eq_true rfl), (Nat.le_of_ble_eq_true rfl)⟩) ?_
                  refine lv_i2l hx hb dX5_digest_100 rfl ?_
                  refine lv_ladd hx hb dX5_digest_101 ?_
                  refine lv_topl (fun x31 ex31 => ?_)
                  have hf := bd_s hf ex31
                  refine lv_lstore_n (lv' := [(1, .long x31), (0, .ref hm), (3, .int x21), (4, .int x25)]) hx hb dX5_digest_102 rfl hl (by decide) rfl (fun ls hl => ?_)
                  obtain ⟨x32, ex32⟩ : ∃ y : Int32, y = x25 + 1 := ⟨_, rfl⟩
                  have hf := bd_s hf ex32
                  refine lv_iinc (v := x32) (lv' := [(4, .int x32), (1, .long x31), (0, .ref hm), (3, .int x21)]) hx hb dX5_digest_103 hl (k := 3) rfl (by rw [ex32]; rfl) (by decide) rfl (fun ls hl => ?_)
                  refine lv_goto (tgt := 81) hx hb dX5_digest_106 (by decide) ?_
                  exact ih28 x31 x32 ls (lv_sub hl [2, 1, 3, 0] rfl) hf
            exact LP81 N x20 0 ls (lv_sub hl [1, 2, 3, 0] rfl) hf
      exact LP70 N x13 0 ls (lv_sub hl [1, 2, 0] rfl) hf
    have LP37 : ∀ (n14 : Nat) (x10 : Int64) (x11 : Int32) (ls : Array Slot), lv_has ls 5 [(0, .ref hm), (1, .long x10), (3, .int x11)] → f_X5_digest_L37 M N mhol K12 n14 x10 x11 = some r → W p l e (headSpec wsX5_digest ({ frames := 7, cells := 0, slots := 0, locals := 179 })).room s m ([.ref hm] : List Value).toArray below meth c H locs 0 0 (MQ below (mQl D A r.1 [eM hm mh mo my mp r.2 mc, eH cI mh mhol, eO cI mo mof, eY cI my mdy, eP cJ mp mpd]) ([.ref hm] : List Value).toArray s 0 0 A) (F0 m 37 ls []) := by
      intro n14
      induction n14 with
      | zero => intro x10 x11 ls hl hf; exact (no_s hf).elim
      | succ n14 ih14 =>
        intro x10 x11 ls hl hf
        rw [f_X5_digest_L37] at hf
        refine lv_iload_n hx hb dX5_digest_37 rfl (lv_at hl 2 rfl) ?_
        refine lv_aload_n hx hb dX5_digest_38 rfl (lv_at hl 0 rfl) ?_
        refine va_get (D := D) (ci := 4) (v := .int (M 5)) (C := RX5) (T := TX5) (N := 10) hx hb hts inX5_digest_X5 hown hK hP 0 rfl rfl 5 (by decide) (hts (.fieldLink RX5 57 "BondDeskModel" "holidays" "I") (by decide +kernel)) (fun _ h9 => h9) rfl dX5_digest_39 ?_
        refine lv_icmp_ge (tgt := 68) hx hb dX5_digest_42 (by decide) (fun c15 => ?_) (fun c15 => ?_)
        · have hf := it hf c15
          exact JK12 x10 ls (lv_sub hl [0, 1] rfl) hf
        · have hf := ie hf c15
          refine lv_lload_n hx hb dX5_digest_45 rfl (lv_at hl 1 rfl) ?_
          refine lv_ldc2 hx hb hown (hts (.constantLong RX5 206 (31)) (by decide +kernel)) dX5_digest_46 ?_
          refine lv_lmul hx hb dX5_digest_49 ?_
          refine lv_aload_n hx hb dX5_digest_50 rfl (lv_at hl 0 rfl) ?_
          refine va_get (D := D) (ci := 4) (v := .ref mh) (C := RX5) (T := TX5) (N := 10) hx hb hts inX5_digest_X5 hown hK hP 0 rfl rfl 6 (by decide) (hts (.fieldLink RX5 27 "BondDeskModel" "holiday" "[I") (by decide +kernel)) (fun _ h9 => h9) rfl dX5_digest_51 ?_
          refine lv_iload_n hx hb dX5_digest_54 rfl (lv_at hl 2 rfl) ?_
          obtain ⟨c16, hf⟩ := gd_s hf
          refine va_iald hx hb hK hP 1 0 rfl rfl c16 dX5_digest_55 ?_
          obtain ⟨v17, hv17, hf⟩ := ob hf
          refine cSi (W.runS (As := [.int (mhol x11.toNatClampNeg)]) (rest := [.long (x10 * 31)]) ⟨hx, hb, hml, hown, hts⟩ (m_X5_date l D cI cJ cO (mhol x11.toNatClampNeg) N v17 hv17) (va_cwS 1 hts gX5_digest_X5_date rfl rfl rfl (by decide +kernel) ⟨(Nat.le_of_ble_eq_true rfl), (Nat.le_of_ble_eq_true rfl)⟩) ⟨pw_blind, fun U hU hW => ⟨rfl, pw_at hZ hS hP hK hU hW (Or.inr rfl) [] rfl⟩⟩ rfl rfl hl.1 rfl (lv_room (Nat.le_of_ble_eq_true rfl)) dX5_digest_56 ⟨(Nat.le_of_ble_eq_true rfl), (Nat.le_of_ble_eq_true rfl)⟩) ?_
          refine lv_i2l hx hb dX5_digest_59 rfl ?_
          refine lv_ladd hx hb dX5_digest_60 ?_
          refine lv_topl (fun x18 ex18 => ?_)
          have hf := bd_s hf ex18
          refine lv_lstore_n (lv' := [(1, .long x18), (0, .ref hm), (3, .int x11)]) hx hb dX5_digest_61 rfl hl (by decide) rfl (fun ls hl => ?_)
          obtain ⟨x19, ex19⟩ : ∃ y : Int32, y = x11 + 1 := ⟨_, rfl⟩
          have hf := bd_s hf ex19
          refine lv_iinc (v := x19) (lv' := [(3, .int x19), (1, .long x18), (0, .ref hm)]) hx hb dX5_digest_62 hl (k := 2) rfl (by rw [ex19]; rfl) (by decide) rfl (fun ls hl => ?_)
          refine lv_goto (tgt := 37) hx hb dX5_digest_65 (by decide) ?_
          exact ih14 x18 x19 ls (lv_sub hl [2, 1, 0] rfl) hf
    exact LP37 N x4 0 ls (lv_sub hl [1, 2, 0] rfl) hf
  have LP11 : ∀ (n5 : Nat) (x1 : Int64) (x2 : Int32) (ls : Array Slot), lv_has ls 5 [(0, .ref hm), (1, .long x1), (3, .int x2)] → f_X5_digest_L11 N M mc mof mdy mpd K3 n5 x1 x2 = some r → W p l e (headSpec wsX5_digest ({ frames := 7, cells := 0, slots := 0, locals := 179 })).room s m ([.ref hm] : List Value).toArray below meth c H locs 0 0 (MQ below (mQl D A r.1 [eM hm mh mo my mp r.2 mc, eH cI mh mhol, eO cI mo mof, eY cI my mdy, eP cJ mp mpd]) ([.ref hm] : List Value).toArray s 0 0 A) (F0 m 11 ls []) := by
    intro n5
    induction n5 with
    | zero => intro x1 x2 ls hl hf; exact (no_s hf).elim
    | succ n5 ih5 =>
      intro x1 x2 ls hl hf
      rw [f_X5_digest_L11] at hf
      refine lv_iload_n hx hb dX5_digest_11 rfl (lv_at hl 2 rfl) ?_
      refine lv_bipush (v := 11) hx hb dX5_digest_12 (by decide) ?_
      refine lv_icmp_gt (tgt := 35) hx hb dX5_digest_14 (by decide) (fun c6 => ?_) (fun c6 => ?_)
      · have hf := it hf c6
        exact JK3 x1 ls (lv_sub hl [0, 1] rfl) hf
      · have hf := ie hf c6
        refine lv_lload_n hx hb dX5_digest_17 rfl (lv_at hl 1 rfl) ?_
        refine lv_ldc2 hx hb hown (hts (.constantLong RX5 206 (31)) (by decide +kernel)) dX5_digest_18 ?_
        refine lv_lmul hx hb dX5_digest_21 ?_
        refine lv_aload_n hx hb dX5_digest_22 rfl (lv_at hl 0 rfl) ?_
        refine lv_iload_n hx hb dX5_digest_23 rfl (lv_at hl 2 rfl) ?_
        obtain ⟨v7, hv7, hf⟩ := ob hf
        refine cSl (W.runV (As := [.int x2]) (rest := [.long (x1 * 31)]) ⟨hx, hb, hml, hown, hts⟩ (m_X5_counted l D cI cJ cO hm mh mo my mp (va_up M 0 (0 : Int32)) mc mhol mof mdy mpd x2 N v7 hv7) (cwV 1 hts gX5_digest_X5_counted rfl rfl rfl (by decide +kernel) ⟨(Nat.le_of_ble_eq_true rfl), (Nat.le_of_ble_eq_true rfl)⟩) ⟨pw_blind, va_recv hK hP (ci := 4) (q0 := 0) rfl rfl, fun U hU hW => ⟨rfl, pw_at hZ hS hP hK hU hW (Or.inr rfl) [0, 1, 2, 3, 4] rfl⟩⟩ rfl rfl hl.1 rfl (lv_room (Nat.le_of_ble_eq_true rfl)) dX5_digest_24 ⟨(Nat.le_of_ble_eq_true rfl), (Nat.le_of_ble_eq_true rfl)⟩) ?_
        refine lv_ladd hx hb dX5_digest_27 ?_
        refine lv_topl (fun x8 ex8 => ?_)
        have hf := bd_s hf ex8
        refine lv_lstore_n (lv' := [(1, .long x8), (0, .ref hm), (3, .int x2)]) hx hb dX5_digest_28 rfl hl (by decide) rfl (fun ls hl => ?_)
        obtain ⟨x9, ex9⟩ : ∃ y : Int32, y = x2 + 1 := ⟨_, rfl⟩
        have hf := bd_s hf ex9
        refine lv_iinc (v := x9) (lv' := [(3, .int x9), (1, .long x8), (0, .ref hm)]) hx hb dX5_digest_29 hl (k := 2) rfl (by rw [ex9]; rfl) (by decide) rfl (fun ls hl => ?_)
        refine lv_goto (tgt := 11) hx hb dX5_digest_32 (by decide) ?_
        exact ih5 x8 x9 ls (lv_sub hl [2, 1, 0] rfl) hf
  exact LP11 N 647 0 ls (lv_sub hl [2, 1, 0] rfl) hf
