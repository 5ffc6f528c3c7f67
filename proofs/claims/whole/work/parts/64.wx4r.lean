theorem lt_X4_bondNumbered {nb : Nat} {a0 : Int32} {rr : Nat ⊕ String} {w : Nat} (h : f_X4_bondNumbered nb a0 = some rr) (e : rr = .inl w) : w < nb := by
  subst e
  unfold f_X4_bondNumbered gd at h
  repeat' split at h
  all_goals first | (cases h; done) | (cases h; assumption)
theorem inX4_isHoliday_X4 : ∀ w ∈ wsX40, w ∈ wsX4_isHoliday := by decide +kernel
set_option maxHeartbeats 4000000 in
set_option maxRecDepth 100000 in
theorem m_X4_isHoliday (l : Launch) (D : va_G) (cI cJ cO : ClassId) (ah : Nat) (qk : Nat) (qh : Nat) (qb : Nat) (ql : Nat) (ab : Nat → Nat) (K : Nat → Int32) (kc : Int64) (hol : Nat → Int32) (LG : Nat → Int64) (nb : Nat) (a0 : Int32) (N : Nat) (r : Int32) (hf : f_X4_isHoliday N hol a0 = some r) : Met l yX4_isHoliday wsX4_isHoliday ({ frames := 0, cells := 0, slots := 0, locals := 0 }) (va_Pc [.ref qk, .int a0] (pw D (ty3 cI cJ cO) (some ah) [eK qk qh qb ql K kc, eG cI qh hol, eF cO qb nb ab, eL ql LG])) (QSz r) 0 0 (fun _ => False) := by
  refine Met.ofW (cc := cX4_isHoliday) (maxL := 6) (ret := (some .boolean)) (by decide) rfl ?_
  intro p e s m args below meth c s₁ Bd hml hv
  obtain ⟨rfl, hZ, hP, hK⟩ := hv
  have hx := Bd.exec
  have hb := Bd.bytes
  have hr := Bd.returns
  have hts := atoms_spec (ws := wsX4_isHoliday) Bd.pre
  have hown : s.vm.findClass RX4 = some m.cls := findClass_of_methodNamed Bd.named
  have hlocks := Bd.notSynchronized
  have hl := lv_entry ([.ref qk, .int a0]) (n := 6) (Nat.le_of_ble_eq_true rfl)
  rw [lg_entry_eq]
  generalize (lg_sl ([.ref qk, .int a0]) ++ List.replicate (6 - (lg_sl ([.ref qk, .int a0])).length) Slot.unset).toArray = ls at hl ⊢
  have hl : lv_has ls 6 [(0, .ref qk), (1, .int a0)] := hl
  unfold f_X4_isHoliday at hf
  refine lv_aload_n hx hb dX4_isHoliday_0 rfl (lv_at hl 0 rfl) ?_
  refine va_get (D := D) (ci := 3) (v := .ref qh) (C := RX4) (T := TX4) (N := 8) hx hb hts inX4_isHoliday_X4 hown hK hP 0 rfl rfl 0 (by decide) (hts (.fieldLink RX4 9 "BondDesk" "holidays" "[I") (by decide +kernel)) (fun _ h9 => h9) rfl dX4_isHoliday_1 ?_
  refine lv_astore_n (lv' := [(2, .ref qh), (0, .ref qk), (1, .int a0)]) hx hb dX4_isHoliday_4 rfl hl (by decide) rfl (fun ls hl => ?_)
  refine lv_aload_n hx hb dX4_isHoliday_5 rfl (lv_at hl 0 rfl) ?_
  refine va_alen (v := 30) hx hb hK hP 1 0 rfl rfl rfl dX4_isHoliday_6 ?_
  refine lv_istore_n (lv' := [(3, .int 30), (2, .ref qh), (0, .ref qk), (1, .int a0)]) hx hb dX4_isHoliday_7 rfl hl (by decide) rfl (fun ls hl => ?_)
  refine lv_iconst (v := 0) hx hb dX4_isHoliday_8 (by decide) ?_
  refine lv_istore (lv' := [(4, .int 0), (3, .int 30), (2, .ref qh), (0, .ref qk), (1, .int a0)]) hx hb dX4_isHoliday_9 hl (by decide) rfl (fun ls hl => ?_)
  have LP11 : ∀ (n2 : Nat) (x1 : Int32) (ls : Array Slot), lv_has ls 6 [(1, .int a0), (2, .ref qh), (3, .int 30), (4, .int x1)] → f_X4_isHoliday_L11 hol a0 n2 x1 = some r → W p l e (headSpec wsX4_isHoliday ({ frames := 0, cells := 0, slots := 0, locals := 0 })).room s m ([.ref qk, .int a0] : List Value).toArray below meth c s.heap [] 0 0 (MQ below (QSz r) ([.ref qk, .int a0] : List Value).toArray s 0 0 (fun _ => False)) (F0 m 11 ls []) := by
    intro n2
    induction n2 with
    | zero => intro x1 ls hl hf; exact (no_s hf).elim
    | succ n2 ih2 =>
      intro x1 ls hl hf
      rw [f_X4_isHoliday_L11] at hf
      refine lv_iload hx hb dX4_isHoliday_11 (lv_at hl 3 rfl) ?_
      refine lv_iload_n hx hb dX4_isHoliday_13 rfl (lv_at hl 2 rfl) ?_
      refine lv_icmp_ge (tgt := 37) hx hb dX4_isHoliday_14 (by decide) (fun c3 => ?_) (fun c3 => ?_)
      · have hf := it hf c3
        refine lv_iconst (v := 0) hx hb dX4_isHoliday_37 (by decide) ?_
        exact W.zret hx hb hr (zn (Or.inl rfl)) (fun t ht _ => ⟨_, rfl, ⟨Option.some.inj hf, (Or.inl rfl)⟩, ht⟩) (fun q hq => absurd hq List.not_mem_nil) dX4_isHoliday_38
      · have hf := ie hf c3
        refine lv_aload_n hx hb dX4_isHoliday_17 rfl (lv_at hl 1 rfl) ?_
        refine lv_iload hx hb dX4_isHoliday_18 (lv_at hl 3 rfl) ?_
        obtain ⟨c4, hf⟩ := gd_s hf
        refine va_iald hx hb hK hP 1 0 rfl rfl c4 dX4_isHoliday_20 ?_
        refine lv_topi (fun x5 ex5 => ?_)
        have hf := bd_s hf ex5
        refine lv_istore (lv' := [(5, .int x5), (1, .int a0), (2, .ref qh), (3, .int 30), (4, .int x1)]) hx hb dX4_isHoliday_21 hl (by decide) rfl (fun ls hl => ?_)
        refine lv_iload hx hb dX4_isHoliday_23 (lv_at hl 0 rfl) ?_
        refine lv_iload_n hx hb dX4_isHoliday_25 rfl (lv_at hl 1 rfl) ?_
        refine lv_icmp_ne (tgt := 31) hx hb dX4_isHoliday_26 (by decide) (fun c6 => ?_) (fun c6 => ?_)
        · have hf := ie hf c6
          obtain ⟨x7, ex7⟩ : ∃ y : Int32, y = x1 + 1 := ⟨_, rfl⟩
          have hf := bd_s hf ex7
          refine lv_iinc (v := x7) (lv' := [(4, .int x7), (5, .int x5), (1, .int a0), (2, .ref qh), (3, .int 30)]) hx hb dX4_isHoliday_31 hl (k := 4) rfl (by rw [ex7]; rfl) (by decide) rfl (fun ls hl => ?_)
          refine lv_goto (tgt := 11) hx hb dX4_isHoliday_34 (by decide) ?_
          exact ih2 x7 ls (lv_sub hl [2, 3, 4, 0] rfl) hf
        · have hf := it hf c6
          refine lv_iconst (v := 1) hx hb dX4_isHoliday_29 (by decide) ?_
          exact W.zret hx hb hr (zn (Or.inr rfl)) (fun t ht _ => ⟨_, rfl, ⟨Option.some.inj hf, (Or.inr rfl)⟩, ht⟩) (fun q hq => absurd hq List.not_mem_nil) dX4_isHoliday_30
  exact LP11 N 0 ls (lv_sub hl [4, 2, 1, 0] rfl) hf
set_option maxHeartbeats 4000000 in
set_option maxRecDepth 100000 in
theorem m_X4_isWorkingDay (l : Launch) (D : va_G) (cI cJ cO : ClassId) (ah : Nat) (qk : Nat) (qh : Nat) (qb : Nat) (ql : Nat) (ab : Nat → Nat) (K : Nat → Int32) (kc : Int64) (hol : Nat → Int32) (LG : Nat → Int64) (nb : Nat) (a0 : Int32) (N : Nat) (r : Int32) (hf : f_X4_isWorkingDay N hol a0 = some r) : Met l yX4_isWorkingDay wsX4_isWorkingDay ({ frames := 2, cells := 0, slots := 0, locals := 45 }) (va_Pc [.ref qk, .int a0] (pw D (ty3 cI cJ cO) (some ah) [eK qk qh qb ql K kc, eG cI qh hol, eF cO qb nb ab, eL ql LG])) (QSz r) 0 0 (fun _ => False) := by
  refine Met.ofW (cc := cX4_isWorkingDay) (maxL := 2) (ret := (some .boolean)) (by decide) rfl ?_
  intro p e s m args below meth c s₁ Bd hml hv
  obtain ⟨rfl, hZ, hP, hK⟩ := hv
  have hx := Bd.exec
  have hb := Bd.bytes
  have hr := Bd.returns
  have hts := atoms_spec (ws := wsX4_isWorkingDay) Bd.pre
  have hown : s.vm.findClass RX4 = some m.cls := findClass_of_methodNamed Bd.named
  have hlocks := Bd.notSynchronized
  have hl := lv_entry ([.ref qk, .int a0]) (n := 2) (Nat.le_of_ble_eq_true rfl)
  rw [lg_entry_eq]
  generalize (lg_sl ([.ref qk, .int a0]) ++ List.replicate (2 - (lg_sl ([.ref qk, .int a0])).length) Slot.unset).toArray = ls at hl ⊢
  have hl : lv_has ls 2 [(0, .ref qk), (1, .int a0)] := hl
  unfold f_X4_isWorkingDay at hf
  refine lv_iload_n hx hb dX4_isWorkingDay_0 rfl (lv_at hl 1 rfl) ?_
  obtain ⟨v1, hv1, hf⟩ := ob hf
  refine cSi (W.runS (As := [.int a0]) (rest := []) ⟨hx, hb, hml, hown, hts⟩ (m_X1_dayOfWeek l D cI cJ cO ah a0 v1 hv1) (va_cwS 1 hts gX4_isWorkingDay_X1_dayOfWeek rfl rfl rfl (by decide +kernel) ⟨(Nat.le_of_ble_eq_true rfl), (Nat.le_of_ble_eq_true rfl)⟩) ⟨pw_blind, fun U hU hW => ⟨rfl, pw_at hZ va_S.rf hP hK hU hW (Or.inr rfl) [] rfl⟩⟩ rfl rfl hl.1 rfl (lv_room (Nat.le_of_ble_eq_true rfl)) dX4_isWorkingDay_1 ⟨(Nat.le_of_ble_eq_true rfl), (Nat.le_of_ble_eq_true rfl)⟩) ?_
  refine lv_iconst (v := 5) hx hb dX4_isWorkingDay_4 (by decide) ?_
  refine lv_icmp_ge (tgt := 23) hx hb dX4_isWorkingDay_5 (by decide) (fun c2 => ?_) (fun c2 => ?_)
  · have hf := it hf c2
    refine lv_iconst (v := 0) hx hb dX4_isWorkingDay_23 (by decide) ?_
    exact W.zret hx hb hr (zn (Or.inl rfl)) (fun t ht _ => ⟨_, rfl, ⟨Option.some.inj hf, (Or.inl rfl)⟩, ht⟩) (fun q hq => absurd hq List.not_mem_nil) dX4_isWorkingDay_24
  · have hf := ie hf c2
    refine lv_aload_n hx hb dX4_isWorkingDay_8 rfl (lv_at hl 0 rfl) ?_
    refine lv_iload_n hx hb dX4_isWorkingDay_9 rfl (lv_at hl 1 rfl) ?_
    obtain ⟨v3, hv3, hf⟩ := ob hf
    refine cSi (W.runS (As := [.int a0]) (rest := [.ref qk]) ⟨hx, hb, hml, hown, hts⟩ (m_X1_dateOf l D cI cJ cO ah a0 N v3 hv3) (va_cwS 1 hts gX4_isWorkingDay_X1_dateOf rfl rfl rfl (by decide +kernel) ⟨(Nat.le_of_ble_eq_true rfl), (Nat.le_of_ble_eq_true rfl)⟩) ⟨pw_blind, fun U hU hW => ⟨rfl, pw_at hZ va_S.rf hP hK hU hW (Or.inr rfl) [] rfl⟩⟩ rfl rfl hl.1 rfl (lv_room (Nat.le_of_ble_eq_true rfl)) dX4_isWorkingDay_10 ⟨(Nat.le_of_ble_eq_true rfl), (Nat.le_of_ble_eq_true rfl)⟩) ?_
    obtain ⟨v4, hv4, hf⟩ := ob hf
    refine cSz (W.runV (As := [.int v3]) (rest := []) ⟨hx, hb, hml, hown, hts⟩ (m_X4_isHoliday l D cI cJ cO ah qk qh qb ql ab K kc hol LG nb v3 N v4 hv4) (cwV 1 hts gX4_isWorkingDay_X4_isHoliday rfl rfl rfl (by decide +kernel) ⟨(Nat.le_of_ble_eq_true rfl), (Nat.le_of_ble_eq_true rfl)⟩) ⟨pw_blind, va_recv hK hP (ci := 3) (q0 := 0) rfl rfl, fun U hU hW => ⟨rfl, pw_at hZ va_S.rf hP hK hU hW (Or.inr rfl) [0, 1, 2, 3] rfl⟩⟩ rfl rfl hl.1 rfl (lv_room (Nat.le_of_ble_eq_true rfl)) dX4_isWorkingDay_13 ⟨(Nat.le_of_ble_eq_true rfl), (Nat.le_of_ble_eq_true rfl)⟩) (fun zv4 => ?_)
    refine lv_if_ne (tgt := 23) hx hb dX4_isWorkingDay_16 (by decide) (fun c5 => ?_) (fun c5 => ?_)
    · have hf := ie hf c5
      refine lv_iconst (v := 0) hx hb dX4_isWorkingDay_23 (by decide) ?_
      exact W.zret hx hb hr (zn (Or.inl rfl)) (fun t ht _ => ⟨_, rfl, ⟨Option.some.inj hf, (Or.inl rfl)⟩, ht⟩) (fun q hq => absurd hq List.not_mem_nil) dX4_isWorkingDay_24
    · have hf := it hf c5
      refine lv_iconst (v := 1) hx hb dX4_isWorkingDay_19 (by decide) ?_
      refine lv_goto (tgt := 24) hx hb dX4_isWorkingDay_20 (by decide) ?_
      exact W.zret hx hb hr (zn (Or.inr rfl)) (fun t ht _ => ⟨_, rfl, ⟨Option.some.inj hf, (Or.inr rfl)⟩, ht⟩) (fun q hq => absurd hq List.not_mem_nil) dX4_isWorkingDay_24
set_option maxHeartbeats 4000000 in
set_option maxRecDepth 100000 in
theorem m_X4_nextWorkingDate (l : Launch) (D : va_G) (cI cJ cO : ClassId) (ah : Nat) (qk : Nat) (qh : Nat) (qb : Nat) (ql : Nat) (ab : Nat → Nat) (K : Nat → Int32) (kc : Int64) (hol : Nat → Int32) (LG : Nat → Int64) (nb : Nat) (a0 : Int32) (N : Nat) (r : Int32) (hf : f_X4_nextWorkingDate N hol a0 = some r) : Met l yX4_nextWorkingDate wsX4_nextWorkingDate ({ frames := 3, cells := 0, slots := 0, locals := 66 }) (va_Pc [.ref qk, .int a0] (pw D (ty3 cI cJ cO) (some ah) [eK qk qh qb ql K kc, eG cI qh hol, eF cO qb nb ab, eL ql LG])) (QSi r) 0 0 (fun _ => False) := by
  refine Met.ofW (cc := cX4_nextWorkingDate) (maxL := 4) (ret := (some .int)) (by decide) rfl ?_
  intro p e s m args below meth c s₁ Bd hml hv
  obtain ⟨rfl, hZ, hP, hK⟩ := hv
  have hx := Bd.exec
  have hb := Bd.bytes
  have hr := Bd.returns
  have hts := atoms_spec (ws := wsX4_nextWorkingDate) Bd.pre
  have hown : s.vm.findClass RX4 = some m.cls := findClass_of_methodNamed Bd.named
  have hlocks := Bd.notSynchronized
  have hl := lv_entry ([.ref qk, .int a0]) (n := 4) (Nat.le_of_ble_eq_true rfl)
  rw [lg_entry_eq]
  generalize (lg_sl ([.ref qk, .int a0]) ++ List.replicate (4 - (lg_sl ([.ref qk, .int a0])).length) Slot.unset).toArray = ls at hl ⊢
  have hl : lv_has ls 4 [(0, .ref qk), (1, .int a0)] := hl
  unfold f_X4_nextWorkingDate at hf
  refine lv_iload_n hx hb dX4_nextWorkingDate_0 rfl (lv_at hl 1 rfl) ?_
  obtain ⟨v1, hv1, hf⟩ := ob hf
  refine cSi (W.runS (As := [.int a0]) (rest := []) ⟨hx, hb, hml, hown, hts⟩ (m_X1_dayNumber l D cI cJ cO ah a0 v1 hv1) (va_cwS 1 hts gX4_nextWorkingDate_X1_dayNumber rfl rfl rfl (by decide +kernel) ⟨(Nat.le_of_ble_eq_true rfl), (Nat.le_of_ble_eq_true rfl)⟩) ⟨pw_blind, fun U hU hW => ⟨rfl, pw_at hZ va_S.rf hP hK hU hW (Or.inr rfl) [] rfl⟩⟩ rfl rfl hl.1 rfl (lv_room (Nat.le_of_ble_eq_true rfl)) dX4_nextWorkingDate_1 ⟨(Nat.le_of_ble_eq_true rfl), (Nat.le_of_ble_eq_true rfl)⟩) ?_
  refine lv_istore_n (lv' := [(2, .int v1), (0, .ref qk), (1, .int a0)]) hx hb dX4_nextWorkingDate_4 rfl hl (by decide) rfl (fun ls hl => ?_)
  refine lv_iconst (v := 0) hx hb dX4_nextWorkingDate_5 (by decide) ?_
  refine lv_istore_n (lv' := [(3, .int 0), (2, .int v1), (0, .ref qk), (1, .int a0)]) hx hb dX4_nextWorkingDate_6 rfl hl (by decide) rfl (fun ls hl => ?_)
  obtain ⟨K3, hK3, hf⟩ := kx_s (P := fun k => f_X4_nextWorkingDate_L7 a0 N hol v1 k N 0 = some r) hf
  have JK3 : ∀ (x4 : Int32) (ls : Array Slot), lv_has ls 4 [(2, .int v1), (3, .int x4)] → K3 x4 = some r → W p l e (headSpec wsX4_nextWorkingDate ({ frames := 3, cells := 0, slots := 0, locals := 66 })).room s m ([.ref qk, .int a0] : List Value).toArray below meth c s.heap [] 0 0 (MQ below (QSi r) ([.ref qk, .int a0] : List Value).toArray s 0 0 (fun _ => False)) (F0 m 23 ls []) := by
    intro x4 ls hl hf
    rw [hK3] at hf
    refine lv_iload_n hx hb dX4_nextWorkingDate_23 rfl (lv_at hl 0 rfl) ?_
    refine lv_iload_n hx hb dX4_nextWorkingDate_24 rfl (lv_at hl 1 rfl) ?_
    refine lv_iadd hx hb dX4_nextWorkingDate_25 ?_
    obtain ⟨v10, hv10, hf⟩ := ob hf
    refine cSi (W.runS (As := [.int (v1 + x4)]) (rest := []) ⟨hx, hb, hml, hown, hts⟩ (m_X1_dateOf l D cI cJ cO ah (v1 + x4) N v10 hv10) (va_cwS 1 hts gX4_nextWorkingDate_X1_dateOf rfl rfl rfl (by decide +kernel) ⟨(Nat.le_of_ble_eq_true rfl), (Nat.le_of_ble_eq_true rfl)⟩) ⟨pw_blind, fun U hU hW => ⟨rfl, pw_at hZ va_S.rf hP hK hU hW (Or.inr rfl) [] rfl⟩⟩ rfl rfl hl.1 rfl (lv_room (Nat.le_of_ble_eq_true rfl)) dX4_nextWorkingDate_26 ⟨(Nat.le_of_ble_eq_true rfl), (Nat.le_of_ble_eq_true rfl)⟩) ?_
    exact W.iret hx hb hr (fun t ht _ => ⟨_, rfl, Option.some.inj hf, ht⟩) (fun q hq => absurd hq List.not_mem_nil) dX4_nextWorkingDate_29
  have LP7 : ∀ (n5 : Nat) (x2 : Int32) (ls : Array Slot), lv_has ls 4 [(0, .ref qk), (1, .int a0), (2, .int v1), (3, .int x2)] → f_X4_nextWorkingDate_L7 a0 N hol v1 K3 n5 x2 = some r → W p l e (headSpec wsX4_nextWorkingDate ({ frames := 3, cells := 0, slots := 0, locals := 66 })).room s m ([.ref qk, .int a0] : List Value).toArray below meth c s.heap [] 0 0 (MQ below (QSi r) ([.ref qk, .int a0] : List Value).toArray s 0 0 (fun _ => False)) (F0 m 7 ls []) := by
    intro n5
    induction n5 with
    | zero => intro x2 ls hl hf; exact (no_s hf).elim
    | succ n5 ih5 =>
      intro x2 ls hl hf
      rw [f_X4_nextWorkingDate_L7] at hf
      refine lv_iload_n hx hb dX4_nextWorkingDate_7 rfl (lv_at hl 3 rfl) ?_
      refine lv_bipush (v := 100) hx hb dX4_nextWorkingDate_8 (by decide) ?_
      refine lv_icmp_ge (tgt := 36) hx hb dX4_nextWorkingDate_10 (by decide) (fun c6 => ?_) (fun c6 => ?_)
      · have hf := it hf c6
        refine lv_iload_n hx hb dX4_nextWorkingDate_36 rfl (lv_at hl 1 rfl) ?_
        exact W.iret hx hb hr (fun t ht _ => ⟨_, rfl, Option.some.inj hf, ht⟩) (fun q hq => absurd hq List.not_mem_nil) dX4_nextWorkingDate_37
      · have hf := ie hf c6
        refine lv_aload_n hx hb dX4_nextWorkingDate_13 rfl (lv_at hl 0 rfl) ?_
        refine lv_iload_n hx hb dX4_nextWorkingDate_14 rfl (lv_at hl 2 rfl) ?_
        refine lv_iload_n hx hb dX4_nextWorkingDate_15 rfl (lv_at hl 3 rfl) ?_
        refine lv_iadd hx hb dX4_nextWorkingDate_16 ?_
        obtain ⟨v7, hv7, hf⟩ := ob hf
        refine cSz (W.runV (As := [.int (v1 + x2)]) (rest := []) ⟨hx, hb, hml, hown, hts⟩ (m_X4_isWorkingDay l D cI cJ cO ah qk qh qb ql ab K kc hol LG nb (v1 + x2) N v7 hv7) (cwV 1 hts gX4_nextWorkingDate_X4_isWorkingDay rfl rfl rfl (by decide +kernel) ⟨(Nat.le_of_ble_eq_true rfl), (Nat.le_of_ble_eq_true rfl)⟩) ⟨pw_blind, va_recv hK hP (ci := 3) (q0 := 0) rfl rfl, fun U hU hW => ⟨rfl, pw_at hZ va_S.rf hP hK hU hW (Or.inr rfl) [0, 1, 2, 3] rfl⟩⟩ rfl rfl hl.1 rfl (lv_room (Nat.le_of_ble_eq_true rfl)) dX4_nextWorkingDate_17 ⟨(Nat.le_of_ble_eq_true rfl), (Nat.le_of_ble_eq_true rfl)⟩) (fun zv7 => ?_)
        refine lv_if_eq (tgt := 30) hx hb dX4_nextWorkingDate_20 (by decide) (fun c8 => ?_) (fun c8 => ?_)
        · have hf := it hf c8
          obtain ⟨x9, ex9⟩ : ∃ y : Int32, y = x2 + 1 := ⟨_, rfl⟩
          have hf := bd_s hf ex9
          refine lv_iinc (v := x9) (lv' := [(3, .int x9), (0, .ref qk), (1, .int a0), (2, .int v1)]) hx hb dX4_nextWorkingDate_30 hl (k := 3) rfl (by rw [ex9]; rfl) (by decide) rfl (fun ls hl => ?_)
          refine lv_goto (tgt := 7) hx hb dX4_nextWorkingDate_33 (by decide) ?_
          exact ih5 x9 ls (lv_sub hl [1, 2, 3, 0] rfl) hf
        · have hf := ie hf c8
          exact JK3 x2 ls (lv_sub hl [2, 3] rfl) hf
  exact LP7 N 0 ls (lv_sub hl [2, 3, 1, 0] rfl) hf
theorem inX4_leastWorth_X0 : ∀ w ∈ wsX00, w ∈ wsX4_leastWorth := by decide +kernel
theorem inX4_leastWorth_X4 : ∀ w ∈ wsX40, w ∈ wsX4_leastWorth := by decide +kernel
set_option maxHeartbeats 4000000 in
set_option maxRecDepth 100000 in
theorem m_X4_leastWorth (l : Launch) (D : va_G) (cI cJ cO : ClassId) (ah : Nat) (qk : Nat) (qh : Nat) (qb : Nat) (ql : Nat) (ab : Nat → Nat) (as_ : Nat → Nat) (ad : Nat → Nat) (K : Nat → Int32) (kc : Int64) (hol : Nat → Int32) (LG : Nat → Int64) (nb : Nat) (bB : Nat → Nat → Int32) (bS : Nat → Nat → Int32) (bT : Nat → Nat → Int64) (bn : Nat → Nat) (bds : Nat → Nat → Int32) (a0 : Int32) (N : Nat) (r : Int64) (hf : f_X4_leastWorth N K nb bB bS bT bn bds a0 = some r) : Met l yX4_leastWorth wsX4_leastWorth ({ frames := 4, cells := 0, slots := 0, locals := 91 }) (va_Pc [.ref qk, .int a0] (pwB D (ty3 cI cJ cO) (some ah) [eK qk qh qb ql K kc, eG cI qh hol, eF cO qb nb ab, eL ql LG] nb (fam cI ab as_ ad bB bS bT bn bds))) (QSl r) 0 0 (fun _ => False) := by
  refine Met.ofW (cc := cX4_leastWorth) (maxL := 10) (ret := (some .long)) (by decide) rfl ?_
  intro p e s m args below meth c s₁ Bd hml hv
  obtain ⟨rfl, ⟨hZ, hP, hK⟩, hB⟩ := hv
  have hx := Bd.exec
  have hb := Bd.bytes
  have hr := Bd.returns
  have hts := atoms_spec (ws := wsX4_leastWorth) Bd.pre
  have hown : s.vm.findClass RX4 = some m.cls := findClass_of_methodNamed Bd.named
  have hlocks := Bd.notSynchronized
  have hl := lv_entry ([.ref qk, .int a0]) (n := 10) (Nat.le_of_ble_eq_true rfl)
  rw [lg_entry_eq]
  generalize (lg_sl ([.ref qk, .int a0]) ++ List.replicate (10 - (lg_sl ([.ref qk, .int a0])).length) Slot.unset).toArray = ls at hl ⊢
  have hl : lv_has ls 10 [(0, .ref qk), (1, .int a0)] := hl
  unfold f_X4_leastWorth at hf
  refine lv_ldc2 hx hb hown (hts (.constantLong RX4 320 (-1)) (by decide +kernel)) dX4_leastWorth_0 ?_
  refine lv_topl (fun x1 ex1 => ?_)
  have hf := bd_s hf ex1
  refine lv_lstore_n (lv' := [(2, .long x1), (0, .ref qk), (1, .int a0)]) hx hb dX4_leastWorth_3 rfl hl (by decide) rfl (fun ls hl => ?_)
  refine lv_aload_n hx hb dX4_leastWorth_4 rfl (lv_at hl 1 rfl) ?_
  refine va_get (D := D) (ci := 3) (v := .ref qb) (C := RX4) (T := TX4) (N := 8) hx hb hts inX4_leastWorth_X4 hown hK hP 0 rfl rfl 1 (by decide) (hts (.fieldLink RX4 15 "BondDesk" "bonds" "[LBondDesk$Bond;") (by decide +kernel)) (fun _ h9 => h9) rfl dX4_leastWorth_5 ?_
  refine lv_astore (lv' := [(4, .ref qb), (2, .long x1), (0, .ref qk), (1, .int a0)]) hx hb dX4_leastWorth_8 hl (by decide) rfl (fun ls hl => ?_)
  refine lv_aload hx hb dX4_leastWorth_10 (lv_at hl 0 rfl) ?_
  refine va_alen (v := 10) hx hb hK hP 2 2 rfl rfl rfl dX4_leastWorth_12 ?_
  refine lv_istore (lv' := [(5, .int 10), (4, .ref qb), (2, .long x1), (0, .ref qk), (1, .int a0)]) hx hb dX4_leastWorth_13 hl (by decide) rfl (fun ls hl => ?_)
  refine lv_iconst (v := 0) hx hb dX4_leastWorth_15 (by decide) ?_
  refine lv_istore (lv' := [(6, .int 0), (5, .int 10), (4, .ref qb), (2, .long x1), (0, .ref qk), (1, .int a0)]) hx hb dX4_leastWorth_16 hl (by decide) rfl (fun ls hl => ?_)
  have LP18 : ∀ (n4 : Nat) (x2 : Int64) (x3 : Int32) (ls : Array Slot), lv_has ls 10 [(0, .ref qk), (1, .int a0), (2, .long x2), (4, .ref qb), (5, .int 10), (6, .int x3)] → f_X4_leastWorth_L18 nb bB bS a0 K N bT bn bds n4 x2 x3 = some r → W p l e (headSpec wsX4_leastWorth ({ frames := 4, cells := 0, slots := 0, locals := 91 })).room s m ([.ref qk, .int a0] : List Value).toArray below meth c s.heap [] 0 0 (MQ below (QSl r) ([.ref qk, .int a0] : List Value).toArray s 0 0 (fun _ => False)) (F0 m 18 ls []) := by
    intro n4
    induction n4 with
    | zero => intro x2 x3 ls hl hf; exact (no_s hf).elim
    | succ n4 ih4 =>
      intro x2 x3 ls hl hf
      rw [f_X4_leastWorth_L18] at hf
      refine lv_iload hx hb dX4_leastWorth_18 (lv_at hl 5 rfl) ?_
      refine lv_iload hx hb dX4_leastWorth_20 (lv_at hl 4 rfl) ?_
      refine lv_icmp_ge (tgt := 92) hx hb dX4_leastWorth_22 (by decide) (fun c5 => ?_) (fun c5 => ?_)
      · have hf := it hf c5
        refine lv_lload_n hx hb dX4_leastWorth_92 rfl (lv_at hl 2 rfl) ?_
        exact W.lret hx hb hr (fun t ht _ => ⟨_, rfl, Option.some.inj hf, ht⟩) (fun q hq => absurd hq List.not_mem_nil) dX4_leastWorth_93
      · have hf := ie hf c5
        refine lv_aload hx hb dX4_leastWorth_25 (lv_at hl 3 rfl) ?_
        refine lv_iload hx hb dX4_leastWorth_27 (lv_at hl 5 rfl) ?_
        obtain ⟨c6, hf⟩ := gd_s hf
        refine aldB hx hb hK hP 2 2 rfl rfl c6 dX4_leastWorth_29 (fun c7 => ?_) (fun c7 => ?_)
        · have hf := it hf c7
          refine lv_astore (lv' := [(7, .ref (ab x3.toNatClampNeg)), (0, .ref qk), (1, .int a0), (2, .long x2), (4, .ref qb), (5, .int 10), (6, .int x3)]) hx hb dX4_leastWorth_30 hl (by decide) rfl (fun ls hl => ?_)
          refine lv_aload hx hb dX4_leastWorth_32 (lv_at hl 0 rfl) ?_
          refine lv_ifnull hx hb dX4_leastWorth_34 ?_
          refine lv_aload hx hb dX4_leastWorth_37 (lv_at hl 0 rfl) ?_
          refine lv_iload_n hx hb dX4_leastWorth_39 rfl (lv_at hl 2 rfl) ?_
          refine lv_aload_n hx hb dX4_leastWorth_40 rfl (lv_at hl 1 rfl) ?_
          refine va_get (D := D) (ci := 3) (v := .int (K 5)) (C := RX4) (T := TX4) (N := 8) hx hb hts inX4_leastWorth_X4 hown hK hP 0 rfl rfl 5 (by decide) (hts (.fieldLink RX4 27 "BondDesk" "today" "I") (by decide +kernel)) (fun _ h9 => h9) rfl dX4_leastWorth_41 ?_
          obtain ⟨v8, hv8, hf⟩ := ob hf
          refine cSz (W.runV (As := [.int a0, .int (K 5)]) (rest := []) ⟨hx, hb, hml, hown, hts⟩ (m_X0_isRung l D cI cJ cO ah (ab x3.toNatClampNeg) (as_ x3.toNatClampNeg) (ad x3.toNatClampNeg) (bB x3.toNatClampNeg) (bS x3.toNatClampNeg) (bT x3.toNatClampNeg) (bn x3.toNatClampNeg) (bds x3.toNatClampNeg) a0 (K 5) v8 hv8) (cwV 2 hts gX4_leastWorth_X0_isRung rfl rfl rfl (by decide +kernel) ⟨(Nat.le_of_ble_eq_true rfl), (Nat.le_of_ble_eq_true rfl)⟩) ⟨pw_blind, va_recv hK (hB x3.toNatClampNeg c7) (ci := 0) (q0 := 2) rfl rfl, fun U hU hW => ⟨rfl, pw_at hZ va_S.rf (hB x3.toNatClampNeg c7) hK hU hW (Or.inr rfl) [0, 1, 2] rfl⟩⟩ rfl rfl hl.1 rfl (lv_room (Nat.le_of_ble_eq_true rfl)) dX4_leastWorth_44 ⟨(Nat.le_of_ble_eq_true rfl), (Nat.le_of_ble_eq_true rfl)⟩) (fun zv8 => ?_)
          refine lv_if_eq (tgt := 86) hx hb dX4_leastWorth_47 (by decide) (fun c9 => ?_) (fun c9 => ?_)
          · have hf := it hf c9
            obtain ⟨x10, ex10⟩ : ∃ y : Int32, y = x3 + 1 := ⟨_, rfl⟩
            have hf := bd_s hf ex10
            refine lv_iinc (v := x10) (lv' := [(6, .int x10), (7, .ref (ab x3.toNatClampNeg)), (0, .ref qk), (1, .int a0), (2, .long x2), (4, .ref qb), (5, .int 10)]) hx hb dX4_leastWorth_86 hl (k := 6) rfl (by rw [ex10]; rfl) (by decide) rfl (fun ls hl => ?_)
            refine lv_goto (tgt := 18) hx hb dX4_leastWorth_89 (by decide) ?_
            exact ih4 x2 x10 ls (lv_sub hl [2, 3, 4, 5, 6, 0] rfl) hf
          · have hf := ie hf c9
            refine lv_aload hx hb dX4_leastWorth_50 (lv_at hl 0 rfl) ?_
            refine lv_aload_n hx hb dX4_leastWorth_52 rfl (lv_at hl 1 rfl) ?_
            refine va_get (D := D) (ci := 3) (v := .int (K 5)) (C := RX4) (T := TX4) (N := 8) hx hb hts inX4_leastWorth_X4 hown hK hP 0 rfl rfl 5 (by decide) (hts (.fieldLink RX4 27 "BondDesk" "today" "I") (by decide +kernel)) (fun _ h9 => h9) rfl dX4_leastWorth_53 ?_
            refine lv_aload hx hb dX4_leastWorth_56 (lv_at hl 0 rfl) ?_
            refine va_get (D := D) (ci := 0) (v := .int ((bB x3.toNatClampNeg) 1)) (C := RX0) (T := TX0) (N := 9) hx hb hts inX4_leastWorth_X0 hown hK (hB x3.toNatClampNeg c7) 2 rfl rfl 1 (by decide) (hts (.fieldLink RX4 212 "BondDesk$Bond" "factor" "I") (by decide +kernel)) (fun _ h9 => h9) rfl dX4_leastWorth_58 ?_
            refine lv_aload_n hx hb dX4_leastWorth_61 rfl (lv_at hl 1 rfl) ?_
            refine va_get (D := D) (ci := 3) (v := .int (K 7)) (C := RX4) (T := TX4) (N := 8) hx hb hts inX4_leastWorth_X4 hown hK hP 0 rfl rfl 7 (by decide) (hts (.fieldLink RX4 37 "BondDesk" "refinancing" "I") (by decide +kernel)) (fun _ h9 => h9) rfl dX4_leastWorth_62 ?_
            obtain ⟨v11, hv11, hf⟩ := ob hf
            refine cSl (W.runV (As := [.int (K 5), .int ((bB x3.toNatClampNeg) 1), .int (K 7)]) (rest := []) ⟨hx, hb, hml, hown, hts⟩ (m_X0_worthAt l D cI cJ cO ah (ab x3.toNatClampNeg) (as_ x3.toNatClampNeg) (ad x3.toNatClampNeg) (bB x3.toNatClampNeg) (bS x3.toNatClampNeg) (bT x3.toNatClampNeg) (bn x3.toNatClampNeg) (bds x3.toNatClampNeg) (K 5) ((bB x3.toNatClampNeg) 1) (K 7) N v11 hv11) (cwV 3 hts gX4_leastWorth_X0_worthAt rfl rfl rfl (by decide +kernel) ⟨(Nat.le_of_ble_eq_true rfl), (Nat.le_of_ble_eq_true rfl)⟩) ⟨pw_blind, va_recv hK (hB x3.toNatClampNeg c7) (ci := 0) (q0 := 2) rfl rfl, fun U hU hW => ⟨rfl, pw_at hZ va_S.rf (hB x3.toNatClampNeg c7) hK hU hW (Or.inr rfl) [0, 1, 2] rfl⟩⟩ rfl rfl hl.1 rfl (lv_room (Nat.le_of_ble_eq_true rfl)) dX4_leastWorth_65 ⟨(Nat.le_of_ble_eq_true rfl), (Nat.le_of_ble_eq_true rfl)⟩) ?_
            refine lv_lstore (lv' := [(8, .long v11), (7, .ref (ab x3.toNatClampNeg)), (0, .ref qk), (1, .int a0), (2, .long x2), (4, .ref qb), (5, .int 10), (6, .int x3)]) hx hb dX4_leastWorth_68 hl (by decide) rfl (fun ls hl => ?_)
            refine lv_lload_n hx hb dX4_leastWorth_70 rfl (lv_at hl 4 rfl) ?_
            refine lv_lconst (v := 0) hx hb dX4_leastWorth_71 (by decide) ?_
            refine W.lcmp hx hb dX4_leastWorth_72 ?_
            refine lv_if_lt (tgt := 83) hx hb dX4_leastWorth_73 (by decide) (fun c12 => ?_) (fun c12 => ?_)
            · have hf := it hf c12
              refine lv_lload hx hb dX4_leastWorth_83 (lv_at hl 0 rfl) ?_
              refine lv_lstore_n (lv' := [(2, .long v11), (8, .long v11), (7, .ref (ab x3.toNatClampNeg)), (0, .ref qk), (1, .int a0), (4, .ref qb), (5, .int 10), (6, .int x3)]) hx hb dX4_leastWorth_85 rfl hl (by decide) rfl (fun ls hl => ?_)
              obtain ⟨x13, ex13⟩ : ∃ y : Int32, y = x3 + 1 := ⟨_, rfl⟩
              have hf := bd_s hf ex13
              refine lv_iinc (v := x13) (lv' := [(6, .int x13), (2, .long v11), (8, .long v11), (7, .ref (ab x3.toNatClampNeg)), (0, .ref qk), (1, .int a0), (4, .ref qb), (5, .int 10)]) hx hb dX4_leastWorth_86 hl (k := 7) rfl (by rw [ex13]; rfl) (by decide) rfl (fun ls hl => ?_)
              refine lv_goto (tgt := 18) hx hb dX4_leastWorth_89 (by decide) ?_
              exact ih4 v11 x13 ls (lv_sub hl [4, 5, 1, 6, 7, 0] rfl) hf
            · have hf := ie hf c12
              refine lv_lload hx hb dX4_leastWorth_76 (lv_at hl 0 rfl) ?_
              refine lv_lload_n hx hb dX4_leastWorth_78 rfl (lv_at hl 4 rfl) ?_
              refine W.lcmp hx hb dX4_leastWorth_79 ?_
              refine lv_if_ge (tgt := 86) hx hb dX4_leastWorth_80 (by decide) (fun c14 => ?_) (fun c14 => ?_)
              · have hf := it hf c14
                obtain ⟨x15, ex15⟩ : ∃ y : Int32, y = x3 + 1 := ⟨_, rfl⟩
                have hf := bd_s hf ex15
                refine lv_iinc (v := x15) (lv' := [(6, .int x15), (8, .long v11), (7, .ref (ab x3.toNatClampNeg)), (0, .ref qk), (1, .int a0), (2, .long x2), (4, .ref qb), (5, .int 10)]) hx hb dX4_leastWorth_86 hl (k := 7) rfl (by rw [ex15]; rfl) (by decide) rfl (fun ls hl => ?_)
                refine lv_goto (tgt := 18) hx hb dX4_leastWorth_89 (by decide) ?_
                exact ih4 x2 x15 ls (lv_sub hl [3, 4, 5, 6, 7, 0] rfl) hf
              · have hf := ie hf c14
                refine lv_lload hx hb dX4_leastWorth_83 (lv_at hl 0 rfl) ?_
                refine lv_lstore_n (lv' := [(2, .long v11), (8, .long v11), (7, .ref (ab x3.toNatClampNeg)), (0, .ref qk), (1, .int a0), (4, .ref qb), (5, .int 10), (6, .int x3)]) hx hb dX4_leastWorth_85 rfl hl (by decide) rfl (fun ls hl => ?_)
                obtain ⟨x16, ex16⟩ : ∃ y : Int32, y = x3 + 1 := ⟨_, rfl⟩
                have hf := bd_s hf ex16
                refine lv_iinc (v := x16) (lv' := [(6, .int x16), (2, .long v11), (8, .long v11), (7, .ref (ab x3.toNatClampNeg)), (0, .ref qk), (1, .int a0), (4, .ref qb), (5, .int 10)]) hx hb dX4_leastWorth_86 hl (k := 7) rfl (by rw [ex16]; rfl) (by decide) rfl (fun ls hl => ?_)
                refine lv_goto (tgt := 18) hx hb dX4_leastWorth_89 (by decide) ?_
                exact ih4 v11 x16 ls (lv_sub hl [4, 5, 1, 6, 7, 0] rfl) hf
        · have hf := ie hf c7
          refine lv_astoreN (lv' := [(7, .null), (0, .ref qk), (1, .int a0), (2, .long x2), (4, .ref qb), (5, .int 10), (6, .int x3)]) hx hb dX4_leastWorth_30 hl (by decide) rfl (fun ls hl => ?_)
          refine lv_aloadN hx hb dX4_leastWorth_32 (lv_at hl 0 rfl) ?_
          refine lv_ifnullN (tgt := 86) hx hb dX4_leastWorth_34 (by decide) ?_
          obtain ⟨x17, ex17⟩ : ∃ y : Int32, y = x3 + 1 := ⟨_, rfl⟩
          have hf := bd_s hf ex17
          refine lv_iinc (v := x17) (lv' := [(6, .int x17), (7, .null), (0, .ref qk), (1, .int a0), (2, .long x2), (4, .ref qb), (5, .int 10)]) hx hb dX4_leastWorth_86 hl (k := 6) rfl (by rw [ex17]; rfl) (by decide) rfl (fun ls hl => ?_)
          refine lv_goto (tgt := 18) hx hb dX4_leastWorth_89 (by decide) ?_
          exact ih4 x2 x17 ls (lv_sub hl [2, 3, 4, 5, 6, 0] rfl) hf
  exact LP18 N x1 0 ls (lv_sub hl [4, 5, 3, 2, 1, 0] rfl) hf
theorem inX4_bondsThere_X4 : ∀ w ∈ wsX40, w ∈ wsX4_bondsThere := by decide +kernel
set_option maxHeartbeats 4000000 in
set_option maxRecDepth 100000 in
theorem m_X4_bondsThere (l : Launch) (D : va_G) (cI cJ cO : ClassId) (ah : Nat) (qk : Nat) (qh : Nat) (qb : Nat) (ql : Nat) (ab : Nat → Nat) (as_ : Nat → Nat) (ad : Nat → Nat) (K : Nat → Int32) (kc : Int64) (hol : Nat → Int32) (LG : Nat → Int64) (nb : Nat) (bB : Nat → Nat → Int32) (bS : Nat → Nat → Int32) (bT : Nat → Nat → Int64) (bn : Nat → Nat) (bds : Nat → Nat → Int32) (N : Nat) (r : Int32) (hf : f_X4_bondsThere N nb bB = some r) : Met l yX4_bondsThere wsX4_bondsThere ({ frames := 1, cells := 0, slots := 0, locals := 20 }) (va_Pc [.ref qk] (pwB D (ty3 cI cJ cO) (some ah) [eK qk qh qb ql K kc, eG cI qh hol, eF cO qb nb ab, eL ql LG] nb (fam cI ab as_ ad bB bS bT bn bds))) (QSi r) 0 0 (fun _ => False) := by
  refine Met.ofW (cc := cX4_bondsThere) (maxL := 6) (ret := (some .int)) (by decide) rfl ?_
  intro p e s m args below meth c s₁ Bd hml hv
  obtain ⟨rfl, ⟨hZ, hP, hK⟩, hB⟩ := hv
  have hx := Bd.exec
  have hb := Bd.bytes
  have hr := Bd.returns
  have hts := atoms_spec (ws := wsX4_bondsThere) Bd.pre
  have hown : s.vm.findClass RX4 = some m.cls := findClass_of_methodNamed Bd.named
  have hlocks := Bd.notSynchronized
  have hl := lv_entry ([.ref qk]) (n := 6) (Nat.le_of_ble_eq_true rfl)
  rw [lg_entry_eq]
  generalize (lg_sl ([.ref qk]) ++ List.replicate (6 - (lg_sl ([.ref qk])).length) Slot.unset).toArray = ls at hl ⊢
  have hl : lv_has ls 6 [(0, .ref qk)] := hl
  unfold f_X4_bondsThere at hf
  refine lv_iconst (v := 0) hx hb dX4_bondsThere_0 (by decide) ?_
  refine lv_istore_n (lv' := [(1, .int 0), (0, .ref qk)]) hx hb dX4_bondsThere_1 rfl hl (by decide) rfl (fun ls hl => ?_)
  refine lv_aload_n hx hb dX4_bondsThere_2 rfl (lv_at hl 1 rfl) ?_
  refine va_get (D := D) (ci := 3) (v := .ref qb) (C := RX4) (T := TX4) (N := 8) hx hb hts inX4_bondsThere_X4 hown hK hP 0 rfl rfl 1 (by decide) (hts (.fieldLink RX4 15 "BondDesk" "bonds" "[LBondDesk$Bond;") (by decide +kernel)) (fun _ h9 => h9) rfl dX4_bondsThere_3 ?_
  refine lv_astore_n (lv' := [(2, .ref qb), (1, .int 0), (0, .ref qk)]) hx hb dX4_bondsThere_6 rfl hl (by decide) rfl (fun ls hl => ?_)
  refine lv_aload_n hx hb dX4_bondsThere_7 rfl (lv_at hl 0 rfl) ?_
  refine va_alen (v := 10) hx hb hK hP 2 2 rfl rfl rfl dX4_bondsThere_8 ?_
  refine lv_istore_n (lv' := [(3, .int 10), (2, .ref qb), (1, .int 0), (0, .ref qk)]) hx hb dX4_bondsThere_9 rfl hl (by decide) rfl (fun ls hl => ?_)
  refine lv_iconst (v := 0) hx hb dX4_bondsThere_10 (by decide) ?_
  refine lv_istore (lv' := [(4, .int 0), (3, .int 10), (2, .ref qb), (1, .int 0), (0, .ref qk)]) hx hb dX4_bondsThere_11 hl (by decide) rfl (fun ls hl => ?_)
  have LP13 : ∀ (n3 : Nat) (x1 : Int32) (x2 : Int32) (ls : Array Slot), lv_has ls 6 [(1, .int x1), (2, .ref qb), (3, .int 10), (4, .int x2)] → f_X4_bondsThere_L13 nb bB n3 x1 x2 = some r → W p l e (headSpec wsX4_bondsThere ({ frames := 1, cells := 0, slots := 0, locals := 20 })).room s m ([.ref qk] : List Value).toArray below meth c s.heap [] 0 0 (MQ below (QSi r) ([.ref qk] : List Value).toArray s 0 0 (fun _ => False)) (F0 m 13 ls []) := by
    intro n3
    induction n3 with
    | zero => intro x1 x2 ls hl hf; exact (no_s hf).elim
    | succ n3 ih3 =>
      intro x1 x2 ls hl hf
      rw [f_X4_bondsThere_L13] at hf
      refine lv_iload hx hb dX4_bondsThere_13 (lv_at hl 3 rfl) ?_
      refine lv_iload_n hx hb dX4_bondsThere_15 rfl (lv_at hl 2 rfl) ?_
      refine lv_icmp_ge (tgt := 47) hx hb dX4_bondsThere_16 (by decide) (fun c4 => ?_) (fun c4 => ?_)
      · have hf := it hf c4
        refine lv_iload_n hx hb dX4_bondsThere_47 rfl (lv_at hl 0 rfl) ?_
        exact W.iret hx hb hr (fun t ht _ => ⟨_, rfl, Option.some.inj hf, ht⟩) (fun q hq => absurd hq List.not_mem_nil) dX4_bondsThere_48
      · have hf := ie hf c4
        refine lv_aload_n hx hb dX4_bondsThere_19 rfl (lv_at hl 1 rfl) ?_
        refine lv_iload hx hb dX4_bondsThere_20 (lv_at hl 3 rfl) ?_
        obtain ⟨c5, hf⟩ := gd_s hf
        refine aldB hx hb hK hP 2 2 rfl rfl c5 dX4_bondsThere_22 (fun c6 => ?_) (fun c6 => ?_)
        · have hf := it hf c6
          refine lv_astore (lv' := [(5, .ref (ab x2.toNatClampNeg)), (1, .int x1), (2, .ref qb), (3, .int 10), (4, .int x2)]) hx hb dX4_bondsThere_23 hl (by decide) rfl (fun ls hl => ?_)
          refine lv_aload hx hb dX4_bondsThere_25 (lv_at hl 0 rfl) ?_
          refine lv_ifnull hx hb dX4_bondsThere_27 ?_
          refine lv_aload hx hb dX4_bondsThere_30 (lv_at hl 0 rfl) ?_
          obtain ⟨v7, hv7, hf⟩ := ob hf
          refine cSz (W.runV (As := []) (rest := []) ⟨hx, hb, hml, hown, hts⟩ (m_X0_isGone l D cI cJ cO ah (ab x2.toNatClampNeg) (as_ x2.toNatClampNeg) (ad x2.toNatClampNeg) (bB x2.toNatClampNeg) (bS x2.toNatClampNeg) (bT x2.toNatClampNeg) (bn x2.toNatClampNeg) (bds x2.toNatClampNeg) v7 hv7) (cwV 0 hts gX4_bondsThere_X0_isGone rfl rfl rfl (by decide +kernel) ⟨(Nat.le_of_ble_eq_true rfl), (Nat.le_of_ble_eq_true rfl)⟩) ⟨pw_blind, va_recv hK (hB x2.toNatClampNeg c6) (ci := 0) (q0 := 2) rfl rfl, fun U hU hW => ⟨rfl, pw_at hZ va_S.rf (hB x2.toNatClampNeg c6) hK hU hW (Or.inr rfl) [0, 1, 2] rfl⟩⟩ rfl rfl hl.1 rfl (lv_room (Nat.le_of_ble_eq_true rfl)) dX4_bondsThere_32 ⟨(Nat.le_of_ble_eq_true rfl), (Nat.le_of_ble_eq_true rfl)⟩) (fun zv7 => ?_)
          refine lv_if_ne (tgt := 41) hx hb dX4_bondsThere_35 (by decide) (fun c8 => ?_) (fun c8 => ?_)
          · have hf := ie hf c8
            obtain ⟨x9, ex9⟩ : ∃ y : Int32, y = x2 + 1 := ⟨_, rfl⟩
            have hf := bd_s hf ex9
            refine lv_iinc (v := x9) (lv' := [(4, .int x9), (5, .ref (ab x2.toNatClampNeg)), (1, .int x1), (2, .ref qb), (3, .int 10)]) hx hb dX4_bondsThere_41 hl (k := 4) rfl (by rw [ex9]; rfl) (by decide) rfl (fun ls hl => ?_)
            refine lv_goto (tgt := 13) hx hb dX4_bondsThere_44 (by decide) ?_
            exact ih3 x1 x9 ls (lv_sub hl [2, 3, 4, 0] rfl) hf
          · have hf := it hf c8
            obtain ⟨x10, ex10⟩ : ∃ y : Int32, y = x1 + 1 := ⟨_, rfl⟩
            have hf := bd_s hf ex10
            refine lv_iinc (v := x10) (lv' := [(1, .int x10), (5, .ref (ab x2.toNatClampNeg)), (2, .ref qb), (3, .int 10), (4, .int x2)]) hx hb dX4_bondsThere_38 hl (k := 1) rfl (by rw [ex10]; rfl) (by decide) rfl (fun ls hl => ?_)
            obtain ⟨x11, ex11⟩ : ∃ y : Int32, y = x2 + 1 := ⟨_, rfl⟩
            have hf := bd_s hf ex11
            refine lv_iinc (v := x11) (lv' := [(4, .int x11), (1, .int x10), (5, .ref (ab x2.toNatClampNeg)), (2, .ref qb), (3, .int 10)]) hx hb dX4_bondsThere_41 hl (k := 4) rfl (by rw [ex11]; rfl) (by decide) rfl (fun ls hl => ?_)
            refine lv_goto (tgt := 13) hx hb dX4_bondsThere_44 (by decide) ?_
            exact ih3 x10 x11 ls (lv_sub hl [1, 3, 4, 0] rfl) hf
        · have hf := ie hf c6
          refine lv_astoreN (lv' := [(5, .null), (1, .int x1), (2, .ref qb), (3, .int 10), (4, .int x2)]) hx hb dX4_bondsThere_23 hl (by decide) rfl (fun ls hl => ?_)
          refine lv_aloadN hx hb dX4_bondsThere_25 (lv_at hl 0 rfl) ?_
          refine lv_ifnullN (tgt := 41) hx hb dX4_bondsThere_27 (by decide) ?_
          obtain ⟨x12, ex12⟩ : ∃ y : Int32, y = x2 + 1 := ⟨_, rfl⟩
          have hf := bd_s hf ex12
          refine lv_iinc (v := x12) (lv' := [(4, .int x12), (5, .null), (1, .int x1), (2, .ref qb), (3, .int 10)]) hx hb dX4_bondsThere_41 hl (k := 4) rfl (by rw [ex12]; rfl) (by decide) rfl (fun ls hl => ?_)
          refine lv_goto (tgt := 13) hx hb dX4_bondsThere_44 (by decide) ?_
          exact ih3 x1 x12 ls (lv_sub hl [2, 3, 4, 0] rfl) hf
  exact LP13 N 0 0 ls (lv_sub hl [3, 2, 1, 0] rfl) hf
theorem inX4_piecesHeld_X0 : ∀ w ∈ wsX00, w ∈ wsX4_piecesHeld := by decide +kernel
theorem inX4_piecesHeld_X4 : ∀ w ∈ wsX40, w ∈ wsX4_piecesHeld := by decide +kernel
set_option maxHeartbeats 4000000 in
set_option maxRecDepth 100000 in
theorem m_X4_piecesHeld (l : Launch) (D : va_G) (cI cJ cO : ClassId) (ah : Nat) (qk : Nat) (qh : Nat) (qb : Nat) (ql : Nat) (ab : Nat → Nat) (as_ : Nat → Nat) (ad : Nat → Nat) (K : Nat → Int32) (kc : Int64) (hol : Nat → Int32) (LG : Nat → Int64) (nb : Nat) (bB : Nat → Nat → Int32) (bS : Nat → Nat → Int32) (bT : Nat → Nat → Int64) (bn : Nat → Nat) (bds : Nat → Nat → Int32) (N : Nat) (r : Int32) (hf : f_X4_piecesHeld N nb bB = some r) : Met l yX4_piecesHeld wsX4_piecesHeld ({ frames := 0, cells := 0, slots := 0, locals := 0 }) (va_Pc [.ref qk] (pwB D (ty3 cI cJ cO) (some ah) [eK qk qh qb ql K kc, eG cI qh hol, eF cO qb nb ab, eL ql LG] nb (fam cI ab as_ ad bB bS bT bn bds))) (QSi r) 0 0 (fun _ => False) := by
  refine Met.ofW (cc := cX4_piecesHeld) (maxL := 6) (ret := (some .int)) (by decide) rfl ?_
  intro p e s m args below meth c s₁ Bd hml hv
  obtain ⟨rfl, ⟨hZ, hP, hK⟩, hB⟩ := hv
  have hx := Bd.exec
  have hb := Bd.bytes
  have hr := Bd.returns
  have hts := atoms_spec (ws := wsX4_piecesHeld) Bd.pre
  have hown : s.vm.findClass RX4 = some m.cls := findClass_of_methodNamed Bd.named
  have hlocks := Bd.notSynchronized
  have hl := lv_entry ([.ref qk]) (n := 6) (Nat.le_of_ble_eq_true rfl)
  rw [lg_entry_eq]
  generalize (lg_sl ([.ref qk]) ++ List.replicate (6 - (lg_sl ([.ref qk])).length) Slot.unset).toArray = ls at hl ⊢
  have hl : lv_has ls 6 [(0, .ref qk)] := hl
  unfold f_X4_piecesHeld at hf
  refine lv_iconst (v := 0) hx hb dX4_piecesHeld_0 (by decide) ?_
  refine lv_istore_n (lv' := [(1, .int 0), (0, .ref qk)]) hx hb dX4_piecesHeld_1 rfl hl (by decide) rfl (fun ls hl => ?_)
  refine lv_aload_n hx hb dX4_piecesHeld_2 rfl (lv_at hl 1 rfl) ?_
  refine va_get (D := D) (ci := 3) (v := .ref qb) (C := RX4) (T := TX4) (N := 8) hx hb hts inX4_piecesHeld_X4 hown hK hP 0 rfl rfl 1 (by decide) (hts (.fieldLink RX4 15 "BondDesk" "bonds" "[LBondDesk$Bond;") (by decide +kernel)) (fun _ h9 => h9) rfl dX4_piecesHeld_3 ?_
  refine lv_astore_n (lv' := [(2, .ref qb), (1, .int 0), (0, .ref qk)]) hx hb dX4_piecesHeld_6 rfl hl (by decide) rfl (fun ls hl => ?_)
  refine lv_aload_n hx hb dX4_piecesHeld_7 rfl (lv_at hl 0 rfl) ?_
  refine va_alen (v := 10) hx hb hK hP 2 2 rfl rfl rfl dX4_piecesHeld_8 ?_
  refine lv_istore_n (lv' := [(3, .int 10), (2, .ref qb), (1, .int 0), (0, .ref qk)]) hx hb dX4_piecesHeld_9 rfl hl (by decide) rfl (fun ls hl => ?_)
  refine lv_iconst (v := 0) hx hb dX4_piecesHeld_10 (by decide) ?_
  refine lv_istore (lv' := [(4, .int 0), (3, .int 10), (2, .ref qb), (1, .int 0), (0, .ref qk)]) hx hb dX4_piecesHeld_11 hl (by decide) rfl (fun ls hl => ?_)
  have LP13 : ∀ (n3 : Nat) (x1 : Int32) (x2 : Int32) (ls : Array Slot), lv_has ls 6 [(1, .int x1), (2, .ref qb), (3, .int 10), (4, .int x2)] → f_X4_piecesHeld_L13 nb bB n3 x1 x2 = some r → W p l e (headSpec wsX4_piecesHeld ({ frames := 0, cells := 0, slots := 0, locals := 0 })).room s m ([.ref qk] : List Value).toArray below meth c s.heap [] 0 0 (MQ below (QSi r) ([.ref qk] : List Value).toArray s 0 0 (fun _ => False)) (F0 m 13 ls []) := by
    intro n3
    induction n3 with
    | zero => intro x1 x2 ls hl hf; exact (no_s hf).elim
    | succ n3 ih3 =>
      intro x1 x2 ls hl hf
      rw [f_X4_piecesHeld_L13] at hf
      refine lv_iload hx hb dX4_piecesHeld_13 (lv_at hl 3 rfl) ?_
      refine lv_iload_n hx hb dX4_piecesHeld_15 rfl (lv_at hl 2 rfl) ?_
      refine lv_icmp_ge (tgt := 44) hx hb dX4_piecesHeld_16 (by decide) (fun c4 => ?_) (fun c4 => ?_)
      · have hf := it hf c4
        refine lv_iload_n hx hb dX4_piecesHeld_44 rfl (lv_at hl 0 rfl) ?_
        exact W.iret hx hb hr (fun t ht _ => ⟨_, rfl, Option.some.inj hf, ht⟩) (fun q hq => absurd hq List.not_mem_nil) dX4_piecesHeld_45
      · have hf := ie hf c4
        refine lv_aload_n hx hb dX4_piecesHeld_19 rfl (lv_at hl 1 rfl) ?_
        refine lv_iload hx hb dX4_piecesHeld_20 (lv_at hl 3 rfl) ?_
        obtain ⟨c5, hf⟩ := gd_s hf
        refine aldB hx hb hK hP 2 2 rfl rfl c5 dX4_piecesHeld_22 (fun c6 => ?_) (fun c6 => ?_)
        · have hf := it hf c6
          refine lv_astore (lv' := [(5, .ref (ab x2.toNatClampNeg)), (1, .int x1), (2, .ref qb), (3, .int 10), (4, .int x2)]) hx hb dX4_piecesHeld_23 hl (by decide) rfl (fun ls hl => ?_)
          refine lv_aload hx hb dX4_piecesHeld_25 (lv_at hl 0 rfl) ?_
          refine lv_ifnull hx hb dX4_piecesHeld_27 ?_
          refine lv_iload_n hx hb dX4_piecesHeld_30 rfl (lv_at hl 1 rfl) ?_
          refine lv_aload hx hb dX4_piecesHeld_31 (lv_at hl 0 rfl) ?_
          refine va_get (D := D) (ci := 0) (v := .int ((bB x2.toNatClampNeg) 4)) (C := RX0) (T := TX0) (N := 9) hx hb hts inX4_piecesHeld_X0 hown hK (hB x2.toNatClampNeg c6) 2 rfl rfl 4 (by decide) (hts (.fieldLink RX4 244 "BondDesk$Bond" "pieces" "I") (by decide +kernel)) (fun _ h9 => h9) rfl dX4_piecesHeld_33 ?_
          refine lv_iadd hx hb dX4_piecesHeld_36 ?_
          refine lv_topi (fun x7 ex7 => ?_)
          have hf := bd_s hf ex7
          refine lv_istore_n (lv' := [(1, .int x7), (5, .ref (ab x2.toNatClampNeg)), (2, .ref qb), (3, .int 10), (4, .int x2)]) hx hb dX4_piecesHeld_37 rfl hl (by decide) rfl (fun ls hl => ?_)
          obtain ⟨x8, ex8⟩ : ∃ y : Int32, y = x2 + 1 := ⟨_, rfl⟩
          have hf := bd_s hf ex8
          refine lv_iinc (v := x8) (lv' := [(4, .int x8), (1, .int x7), (5, .ref (ab x2.toNatClampNeg)), (2, .ref qb), (3, .int 10)]) hx hb dX4_piecesHeld_38 hl (k := 4) rfl (by rw [ex8]; rfl) (by decide) rfl (fun ls hl => ?_)
          refine lv_goto (tgt := 13) hx hb dX4_piecesHeld_41 (by decide) ?_
          exact ih3 x7 x8 ls (lv_sub hl [1, 3, 4, 0] rfl) hf
        · have hf := ie hf c6
          refine lv_astoreN (lv' := [(5, .null), (1, .int x1), (2, .ref qb), (3, .int 10), (4, .int x2)]) hx hb dX4_piecesHeld_23 hl (by decide) rfl (fun ls hl => ?_)
          refine lv_aloadN hx hb dX4_piecesHeld_25 (lv_at hl 0 rfl) ?_
          refine lv_ifnullN (tgt := 38) hx hb dX4_piecesHeld_27 (by decide) ?_
          obtain ⟨x9, ex9⟩ : ∃ y : Int32, y = x2 + 1 := ⟨_, rfl⟩
          have hf := bd_s hf ex9
          refine lv_iinc (v := x9) (lv' := [(4, .int x9), (5, .null), (1, .int x1), (2, .ref qb), (3, .int 10)]) hx hb dX4_piecesHeld_38 hl (k := 4) rfl (by rw [ex9]; rfl) (by decide) rfl (fun ls hl => ?_)
          refine lv_goto (tgt := 13) hx hb dX4_piecesHeld_41 (by decide) ?_
          exact ih3 x1 x9 ls (lv_sub hl [2, 3, 4, 0] rfl) hf
  exact LP13 N 0 0 ls (lv_sub hl [3, 2, 1, 0] rfl) hf
theorem inX4_worthHeld_X0 : ∀ w ∈ wsX00, w ∈ wsX4_worthHeld := by decide +kernel
theorem inX4_worthHeld_X4 : ∀ w ∈ wsX40, w ∈ wsX4_worthHeld := by decide +kernel
set_option maxHeartbeats 4000000 in
set_option maxRecDepth 100000 in
theorem m_X4_worthHeld (l : Launch) (D : va_G) (cI cJ cO : ClassId) (ah : Nat) (qk : Nat) (qh : Nat) (qb : Nat) (ql : Nat) (ab : Nat → Nat) (as_ : Nat → Nat) (ad : Nat → Nat) (K : Nat → Int32) (kc : Int64) (hol : Nat → Int32) (LG : Nat → Int64) (nb : Nat) (bB : Nat → Nat → Int32) (bS : Nat → Nat → Int32) (bT : Nat → Nat → Int64) (bn : Nat → Nat) (bds : Nat → Nat → Int32) (N : Nat) (r : Int64) (hf : f_X4_worthHeld N K nb bB bS bT bn bds = some r) : Met l yX4_worthHeld wsX4_worthHeld ({ frames := 4, cells := 0, slots := 0, locals := 91 }) (va_Pc [.ref qk] (pwB D (ty3 cI cJ cO) (some ah) [eK qk qh qb ql K kc, eG cI qh hol, eF cO qb nb ab, eL ql LG] nb (fam cI ab as_ ad bB bS bT bn bds))) (QSl r) 0 0 (fun _ => False) := by
  refine Met.ofW (cc := cX4_worthHeld) (maxL := 7) (ret := (some .long)) (by decide) rfl ?_
  intro p e s m args below meth c s₁ Bd hml hv
  obtain ⟨rfl, ⟨hZ, hP, hK⟩, hB⟩ := hv
  have hx := Bd.exec
  have hb := Bd.bytes
  have hr := Bd.returns
  have hts := atoms_spec (ws := wsX4_worthHeld) Bd.pre
  have hown : s.vm.findClass RX4 = some m.cls := findClass_of_methodNamed Bd.named
  have hlocks := Bd.notSynchronized
  have hl := lv_entry ([.ref qk]) (n := 7) (Nat.le_of_ble_eq_true rfl)
  rw [lg_entry_eq]
  generalize (lg_sl ([.ref qk]) ++ List.replicate (7 - (lg_sl ([.ref qk])).length) Slot.unset).toArray = ls at hl ⊢
  have hl : lv_has ls 7 [(0, .ref qk)] := hl
  unfold f_X4_worthHeld at hf
  refine lv_lconst (v := 0) hx hb dX4_worthHeld_0 (by decide) ?_
  refine lv_lstore_n (lv' := [(1, .long 0), (0, .ref qk)]) hx hb dX4_worthHeld_1 rfl hl (by decide) rfl (fun ls hl => ?_)
  refine lv_aload_n hx hb dX4_worthHeld_2 rfl (lv_at hl 1 rfl) ?_
  refine va_get (D := D) (ci := 3) (v := .ref qb) (C := RX4) (T := TX4) (N := 8) hx hb hts inX4_worthHeld_X4 hown hK hP 0 rfl rfl 1 (by decide) (hts (.fieldLink RX4 15 "BondDesk" "bonds" "[LBondDesk$Bond;") (by decide +kernel)) (fun _ h9 => h9) rfl dX4_worthHeld_3 ?_
  refine lv_astore_n (lv' := [(3, .ref qb), (1, .long 0), (0, .ref qk)]) hx hb dX4_worthHeld_6 rfl hl (by decide) rfl (fun ls hl => ?_)
  refine lv_aload_n hx hb dX4_worthHeld_7 rfl (lv_at hl 0 rfl) ?_
  refine va_alen (v := 10) hx hb hK hP 2 2 rfl rfl rfl dX4_worthHeld_8 ?_
  refine lv_istore (lv' := [(4, .int 10), (3, .ref qb), (1, .long 0), (0, .ref qk)]) hx hb dX4_worthHeld_9 hl (by decide) rfl (fun ls hl => ?_)
  refine lv_iconst (v := 0) hx hb dX4_worthHeld_11 (by decide) ?_
  refine lv_istore (lv' := [(5, .int 0), (4, .int 10), (3, .ref qb), (1, .long 0), (0, .ref qk)]) hx hb dX4_worthHeld_12 hl (by decide) rfl (fun ls hl => ?_)
  have LP14 : ∀ (n3 : Nat) (x1 : Int64) (x2 : Int32) (ls : Array Slot), lv_has ls 7 [(0, .ref qk), (1, .long x1), (3, .ref qb), (4, .int 10), (5, .int x2)] → f_X4_worthHeld_L14 nb N bB bS bT bn bds K n3 x1 x2 = some r → W p l e (headSpec wsX4_worthHeld ({ frames := 4, cells := 0, slots := 0, locals := 91 })).room s m ([.ref qk] : List Value).toArray below meth c s.heap [] 0 0 (MQ below (QSl r) ([.ref qk] : List Value).toArray s 0 0 (fun _ => False)) (F0 m 14 ls []) := by
    intro n3
    induction n3 with
    | zero => intro x1 x2 ls hl hf; exact (no_s hf).elim
    | succ n3 ih3 =>
      intro x1 x2 ls hl hf
      rw [f_X4_worthHeld_L14] at hf
      refine lv_iload hx hb dX4_worthHeld_14 (lv_at hl 4 rfl) ?_
      refine lv_iload hx hb dX4_worthHeld_16 (lv_at hl 3 rfl) ?_
      refine lv_icmp_ge (tgt := 66) hx hb dX4_worthHeld_18 (by decide) (fun c4 => ?_) (fun c4 => ?_)
      · have hf := it hf c4
        refine lv_lload_n hx hb dX4_worthHeld_66 rfl (lv_at hl 1 rfl) ?_
        exact W.lret hx hb hr (fun t ht _ => ⟨_, rfl, Option.some.inj hf, ht⟩) (fun q hq => absurd hq List.not_mem_nil) dX4_worthHeld_67
      · have hf := ie hf c4
        refine lv_aload_n hx hb dX4_worthHeld_21 rfl (lv_at hl 2 rfl) ?_
        refine lv_iload hx hb dX4_worthHeld_22 (lv_at hl 4 rfl) ?_
        obtain ⟨c5, hf⟩ := gd_s hf
        refine aldB hx hb hK hP 2 2 rfl rfl c5 dX4_worthHeld_24 (fun c6 => ?_) (fun c6 => ?_)
        · have hf := it hf c6
          refine lv_astore (lv' := [(6, .ref (ab x2.toNatClampNeg)), (0, .ref qk), (1, .long x1), (3, .ref qb), (4, .int 10), (5, .int x2)]) hx hb dX4_worthHeld_25 hl (by decide) rfl (fun ls hl => ?_)
          refine lv_aload hx hb dX4_worthHeld_27 (lv_at hl 0 rfl) ?_
          refine lv_ifnull hx hb dX4_worthHeld_29 ?_
          refine lv_lload_n hx hb dX4_worthHeld_32 rfl (lv_at hl 2 rfl) ?_
          refine lv_aload hx hb dX4_worthHeld_33 (lv_at hl 0 rfl) ?_
          refine va_get (D := D) (ci := 0) (v := .int ((bB x2.toNatClampNeg) 4)) (C := RX0) (T := TX0) (N := 9) hx hb hts inX4_worthHeld_X0 hown hK (hB x2.toNatClampNeg c6) 2 rfl rfl 4 (by decide) (hts (.fieldLink RX4 244 "BondDesk$Bond" "pieces" "I") (by decide +kernel)) (fun _ h9 => h9) rfl dX4_worthHeld_35 ?_
          refine lv_i2l hx hb dX4_worthHeld_38 rfl ?_
          refine lv_aload hx hb dX4_worthHeld_39 (lv_at hl 0 rfl) ?_
          refine lv_aload_n hx hb dX4_worthHeld_41 rfl (lv_at hl 1 rfl) ?_
          refine va_get (D := D) (ci := 3) (v := .int (K 5)) (C := RX4) (T := TX4) (N := 8) hx hb hts inX4_worthHeld_X4 hown hK hP 0 rfl rfl 5 (by decide) (hts (.fieldLink RX4 27 "BondDesk" "today" "I") (by decide +kernel)) (fun _ h9 => h9) rfl dX4_worthHeld_42 ?_
          refine lv_aload hx hb dX4_worthHeld_45 (lv_at hl 0 rfl) ?_
          refine va_get (D := D) (ci := 0) (v := .int ((bB x2.toNatClampNeg) 1)) (C := RX0) (T := TX0) (N := 9) hx hb hts inX4_worthHeld_X0 hown hK (hB x2.toNatClampNeg c6) 2 rfl rfl 1 (by decide) (hts (.fieldLink RX4 212 "BondDesk$Bond" "factor" "I") (by decide +kernel)) (fun _ h9 => h9) rfl dX4_worthHeld_47 ?_
          refine lv_aload_n hx hb dX4_worthHeld_50 rfl (lv_at hl 1 rfl) ?_
          refine va_get (D := D) (ci := 3) (v := .int (K 7)) (C := RX4) (T := TX4) (N := 8) hx hb hts inX4_worthHeld_X4 hown hK hP 0 rfl rfl 7 (by decide) (hts (.fieldLink RX4 37 "BondDesk" "refinancing" "I") (by decide +kernel)) (fun _ h9 => h9) rfl dX4_worthHeld_51 ?_
          obtain ⟨v7, hv7, hf⟩ := ob hf
          refine cSl (W.runV (As := [.int (K 5), .int ((bB x2.toNatClampNeg) 1), .int (K 7)]) (rest := [.long (((bB x2.toNatClampNeg) 4).toInt64), .long x1]) ⟨hx, hb, hml, hown, hts⟩ (m_X0_worthAt l D cI cJ cO ah (ab x2.toNatClampNeg) (as_ x2.toNatClampNeg) (ad x2.toNatClampNeg) (bB x2.toNatClampNeg) (bS x2.toNatClampNeg) (bT x2.toNatClampNeg) (bn x2.toNatClampNeg) (bds x2.toNatClampNeg) (K 5) ((bB x2.toNatClampNeg) 1) (K 7) N v7 hv7) (cwV 3 hts gX4_worthHeld_X0_worthAt rfl rfl rfl (by decide +kernel) ⟨(Nat.le_of_ble_eq_true rfl), (Nat.le_of_ble_eq_true rfl)⟩) ⟨pw_blind, va_recv hK (hB x2.toNatClampNeg c6) (ci := 0) (q0 := 2) rfl rfl, fun U hU hW => ⟨rfl, pw_at hZ va_S.rf (hB x2.toNatClampNeg c6) hK hU hW (Or.inr rfl) [0, 1, 2] rfl⟩⟩ rfl rfl hl.1 rfl (lv_room (Nat.le_of_ble_eq_true rfl)) dX4_worthHeld_54 ⟨(Nat.le_of_ble_eq_true rfl), (Nat.le_of_ble_eq_true rfl)⟩) ?_
          refine lv_lmul hx hb dX4_worthHeld_57 ?_
          refine lv_ladd hx hb dX4_worthHeld_58 ?_
          refine lv_topl (fun x8 ex8 => ?_)
          have hf := bd_s hf ex8
          refine lv_lstore_n (lv' := [(1, .long x8), (6, .ref (ab x2.toNatClampNeg)), (0, .ref qk), (3, .ref qb), (4, .int 10), (5, .int x2)]) hx hb dX4_worthHeld_59 rfl hl (by decide) rfl (fun ls hl => ?_)
          obtain ⟨x9, ex9⟩ : ∃ y : Int32, y = x2 + 1 := ⟨_, rfl⟩
          have hf := bd_s hf ex9
          refine lv_iinc (v := x9) (lv' := [(5, .int x9), (1, .long x8), (6, .ref (ab x2.toNatClampNeg)), (0, .ref qk), (3, .ref qb), (4, .int 10)]) hx hb dX4_worthHeld_60 hl (k := 5) rfl (by rw [ex9]; rfl) (by decide) rfl (fun ls hl => ?_)
          refine lv_goto (tgt := 14) hx hb dX4_worthHeld_63 (by decide) ?_
          exact ih3 x8 x9 ls (lv_sub hl [3, 1, 4, 5, 0] rfl) hf
        · have hf := ie hf c6
          refine lv_astoreN (lv' := [(6, .null), (0, .ref qk), (1, .long x1), (3, .ref qb), (4, .int 10), (5, .int x2)]) hx hb dX4_worthHeld_25 hl (by decide) rfl (fun ls hl => ?_)
          refine lv_aloadN hx hb dX4_worthHeld_27 (lv_at hl 0 rfl) ?_
          refine lv_ifnullN (tgt := 60) hx hb dX4_worthHeld_29 (by decide) ?_
          obtain ⟨x10, ex10⟩ : ∃ y : Int32, y = x2 + 1 := ⟨_, rfl⟩
          have hf := bd_s hf ex10
          refine lv_iinc (v := x10) (lv' := [(5, .int x10), (6, .null), (0, .ref qk), (1, .long x1), (3, .ref qb), (4, .int 10)]) hx hb dX4_worthHeld_60 hl (k := 5) rfl (by rw [ex10]; rfl) (by decide) rfl (fun ls hl => ?_)
          refine lv_goto (tgt := 14) hx hb dX4_worthHeld_63 (by decide) ?_
          exact ih3 x1 x10 ls (lv_sub hl [2, 3, 4, 5, 0] rfl) hf
  exact LP14 N 0 0 ls (lv_sub hl [4, 3, 2, 1, 0] rfl) hf
theorem inX4_tell_X2 : ∀ w ∈ wsX20, w ∈ wsX4_tell := by decide +kernel
theorem inX4_tell_X4 : ∀ w ∈ wsX40, w ∈ wsX4_tell := by decide +kernel
set_option maxHeartbeats 4000000 in
set_option maxRecDepth 100000 in
theorem m_X4_tell (l : Launch) (D : va_G) (cI cJ cO : ClassId) (ah : Nat) (qk : Nat) (qh : Nat) (qb : Nat) (ql : Nat) (ab : Nat → Nat) (as_ : Nat → Nat) (ad : Nat → Nat) (K : Nat → Int32) (kc : Int64) (hol : Nat → Int32) (LG : Nat → Int64) (nb : Nat) (bB : Nat → Nat → Int32) (bS : Nat → Nat → Int32) (bT : Nat → Nat → Int64) (bn : Nat → Nat) (bds : Nat → Nat → Int32) (a0 : Int32) (N : Nat) (r : Int64) (hf : f_X4_tell N K kc LG nb bB bS bT bn bds a0 = some r) : Met l yX4_tell wsX4_tell ({ frames := 5, cells := 0, slots := 0, locals := 117 }) (va_Pc [.ref qk, .int a0] (pwB D (ty3 cI cJ cO) (some ah) [eK qk qh qb ql K kc, eG cI qh hol, eF cO qb nb ab, eL ql LG] nb (fam cI ab as_ ad bB bS bT bn bds))) (QSl r) 0 0 (fun _ => False) := by
  refine Met.ofW (cc := cX4_tell) (maxL := 2) (ret := (some .long)) (by decide) rfl ?_
  intro p e s m args below meth c s₁ Bd hml hv
  obtain ⟨rfl, ⟨hZ, hP, hK⟩, hB⟩ := hv
  have hx := Bd.exec
  have hb := Bd.bytes
  have hr := Bd.returns
  have hts := atoms_spec (ws := wsX4_tell) Bd.pre
  have hown : s.vm.findClass RX4 = some m.cls := findClass_of_methodNamed Bd.named
  have hlocks := Bd.notSynchronized
  have hl := lv_entry ([.ref qk, .int a0]) (n := 2) (Nat.le_of_ble_eq_true rfl)
  rw [lg_entry_eq]
  generalize (lg_sl ([.ref qk, .int a0]) ++ List.replicate (2 - (lg_sl ([.ref qk, .int a0])).length) Slot.unset).toArray = ls at hl ⊢
  have hl : lv_has ls 2 [(0, .ref qk), (1, .int a0)] := hl
  unfold f_X4_tell at hf
  refine lv_iload_n hx hb dX4_tell_0 rfl (lv_at hl 1 rfl) ?_
  by_cases c1 : a0 = 0
  · have hf := it hf c1
    refine lv_tableIn (off := 59) (tgt := 60) hx hb dX4_tell_1 (by rw [c1]; decide) (by rw [c1]; decide) (by rw [c1]; rfl) (by decide) ?_
    refine lv_aload_n hx hb dX4_tell_60 rfl (lv_at hl 0 rfl) ?_
    refine va_get (D := D) (ci := 3) (v := .int (K 5)) (C := RX4) (T := TX4) (N := 8) hx hb hts inX4_tell_X4 hown hK hP 0 rfl rfl 5 (by decide) (hts (.fieldLink RX4 27 "BondDesk" "today" "I") (by decide +kernel)) (fun _ h9 => h9) rfl dX4_tell_61 ?_
    refine lv_i2l hx hb dX4_tell_64 rfl ?_
    exact W.lret hx hb hr (fun t ht _ => ⟨_, rfl, Option.some.inj hf, ht⟩) (fun q hq => absurd hq List.not_mem_nil) dX4_tell_65
  have hf := ie hf c1
  by_cases c2 : a0 = 1
  · have hf := it hf c2
    refine lv_tableIn (off := 65) (tgt := 66) hx hb dX4_tell_1 (by rw [c2]; decide) (by rw [c2]; decide) (by rw [c2]; rfl) (by decide) ?_
    refine lv_aload_n hx hb dX4_tell_66 rfl (lv_at hl 0 rfl) ?_
    refine va_get (D := D) (ci := 3) (v := .long kc) (C := RX4) (T := TX4) (N := 8) hx hb hts inX4_tell_X4 hown hK hP 0 rfl rfl 6 (by decide) (hts (.fieldLink RX4 33 "BondDesk" "cash" "J") (by decide +kernel)) (fun _ h9 => h9) rfl dX4_tell_67 ?_
    exact W.lret hx hb hr (fun t ht _ => ⟨_, rfl, Option.some.inj hf, ht⟩) (fun q hq => absurd hq List.not_mem_nil) dX4_tell_70
  have hf := ie hf c2
  by_cases c3 : a0 = 2
  · have hf := it hf c3
    refine lv_tableIn (off := 70) (tgt := 71) hx hb dX4_tell_1 (by rw [c3]; decide) (by rw [c3]; decide) (by rw [c3]; rfl) (by decide) ?_
    refine lv_aload_n hx hb dX4_tell_71 rfl (lv_at hl 0 rfl) ?_
    refine va_get (D := D) (ci := 3) (v := .int (K 7)) (C := RX4) (T := TX4) (N := 8) hx hb hts inX4_tell_X4 hown hK hP 0 rfl rfl 7 (by decide) (hts (.fieldLink RX4 37 "BondDesk" "refinancing" "I") (by decide +kernel)) (fun _ h9 => h9) rfl dX4_tell_72 ?_
    refine lv_i2l hx hb dX4_tell_75 rfl ?_
    exact W.lret hx hb hr (fun t ht _ => ⟨_, rfl, Option.some.inj hf, ht⟩) (fun q hq => absurd hq List.not_mem_nil) dX4_tell_76
  have hf := ie hf c3
  by_cases c4 : a0 = 3
  · have hf := it hf c4
    refine lv_tableIn (off := 76) (tgt := 77) hx hb dX4_tell_1 (by rw [c4]; decide) (by rw [c4]; decide) (by rw [c4]; rfl) (by decide) ?_
    refine lv_aload_n hx hb dX4_tell_77 rfl (lv_at hl 0 rfl) ?_
    refine va_get (D := D) (ci := 3) (v := .int (K 4)) (C := RX4) (T := TX4) (N := 8) hx hb hts inX4_tell_X4 hown hK hP 0 rfl rfl 4 (by decide) (hts (.fieldLink RX4 114 "BondDesk" "bondCount" "I") (by decide +kernel)) (fun _ h9 => h9) rfl dX4_tell_78 ?_
    refine lv_i2l hx hb dX4_tell_81 rfl ?_
    exact W.lret hx hb hr (fun t ht _ => ⟨_, rfl, Option.some.inj hf, ht⟩) (fun q hq => absurd hq List.not_mem_nil) dX4_tell_82
  have hf := ie hf c4
  by_cases c5 : a0 = 4
  · have hf := it hf c5
    refine lv_tableIn (off := 82) (tgt := 83) hx hb dX4_tell_1 (by rw [c5]; decide) (by rw [c5]; decide) (by rw [c5]; rfl) (by decide) ?_
    refine lv_aload_n hx hb dX4_tell_83 rfl (lv_at hl 0 rfl) ?_
    obtain ⟨v6, hv6, hf⟩ := ob hf
    refine cSi (W.runV (As := []) (rest := []) ⟨hx, hb, hml, hown, hts⟩ (m_X4_bondsThere l D cI cJ cO ah qk qh qb ql ab as_ ad K kc hol LG nb bB bS bT bn bds N v6 hv6) (cwV 0 hts gX4_tell_X4_bondsThere rfl rfl rfl (by decide +kernel) ⟨(Nat.le_of_ble_eq_true rfl), (Nat.le_of_ble_eq_true rfl)⟩) ⟨pwB_blind, va_recv hK hP (ci := 3) (q0 := 0) rfl rfl, fun U hU hW => ⟨rfl, pwB_at hZ va_S.rf hP hB hK hU hW (Or.inr rfl) [0, 1, 2, 3] rfl⟩⟩ rfl rfl hl.1 rfl (lv_room (Nat.le_of_ble_eq_true rfl)) dX4_tell_84 ⟨(Nat.le_of_ble_eq_true rfl), (Nat.le_of_ble_eq_true rfl)⟩) ?_
    refine lv_i2l hx hb dX4_tell_87 rfl ?_
    exact W.lret hx hb hr (fun t ht _ => ⟨_, rfl, Option.some.inj hf, ht⟩) (fun q hq => absurd hq List.not_mem_nil) dX4_tell_88
  have hf := ie hf c5
  by_cases c7 : a0 = 5
  · have hf := it hf c7
    refine lv_tableIn (off := 88) (tgt := 89) hx hb dX4_tell_1 (by rw [c7]; decide) (by rw [c7]; decide) (by rw [c7]; rfl) (by decide) ?_
    refine lv_aload_n hx hb dX4_tell_89 rfl (lv_at hl 0 rfl) ?_
    refine va_get (D := D) (ci := 3) (v := .int (K 3)) (C := RX4) (T := TX4) (N := 8) hx hb hts inX4_tell_X4 hown hK hP 0 rfl rfl 3 (by decide) (hts (.fieldLink RX4 70 "BondDesk" "holidayCount" "I") (by decide +kernel)) (fun _ h9 => h9) rfl dX4_tell_90 ?_
    refine lv_i2l hx hb dX4_tell_93 rfl ?_
    exact W.lret hx hb hr (fun t ht _ => ⟨_, rfl, Option.some.inj hf, ht⟩) (fun q hq => absurd hq List.not_mem_nil) dX4_tell_94
  have hf := ie hf c7
  by_cases c8 : a0 = 6
  · have hf := it hf c8
    refine lv_tableIn (off := 94) (tgt := 95) hx hb dX4_tell_1 (by rw [c8]; decide) (by rw [c8]; decide) (by rw [c8]; rfl) (by decide) ?_
    refine lv_aload_n hx hb dX4_tell_95 rfl (lv_at hl 0 rfl) ?_
    obtain ⟨v9, hv9, hf⟩ := ob hf
    refine cSi (W.runV (As := []) (rest := []) ⟨hx, hb, hml, hown, hts⟩ (m_X4_piecesHeld l D cI cJ cO ah qk qh qb ql ab as_ ad K kc hol LG nb bB bS bT bn bds N v9 hv9) (cwV 0 hts gX4_tell_X4_piecesHeld rfl rfl rfl (by decide +kernel) ⟨(Nat.le_of_ble_eq_true rfl), (Nat.le_of_ble_eq_true rfl)⟩) ⟨pwB_blind, va_recv hK hP (ci := 3) (q0 := 0) rfl rfl, fun U hU hW => ⟨rfl, pwB_at hZ va_S.rf hP hB hK hU hW (Or.inr rfl) [0, 1, 2, 3] rfl⟩⟩ rfl rfl hl.1 rfl (lv_room (Nat.le_of_ble_eq_true rfl)) dX4_tell_96 ⟨(Nat.le_of_ble_eq_true rfl), (Nat.le_of_ble_eq_true rfl)⟩) ?_
    refine lv_i2l hx hb dX4_tell_99 rfl ?_
    exact W.lret hx hb hr (fun t ht _ => ⟨_, rfl, Option.some.inj hf, ht⟩) (fun q hq => absurd hq List.not_mem_nil) dX4_tell_100
  have hf := ie hf c8
  by_cases c10 : a0 = 7
  · have hf := it hf c10
    refine lv_tableIn (off := 100) (tgt := 101) hx hb dX4_tell_1 (by rw [c10]; decide) (by rw [c10]; decide) (by rw [c10]; rfl) (by decide) ?_
    refine lv_aload_n hx hb dX4_tell_101 rfl (lv_at hl 0 rfl) ?_
    refine va_get (D := D) (ci := 3) (v := .ref ql) (C := RX4) (T := TX4) (N := 8) hx hb hts inX4_tell_X4 hown hK hP 0 rfl rfl 2 (by decide) (hts (.fieldLink RX4 22 "BondDesk" "paid" "LBondDesk$Ledger;") (by decide +kernel)) (fun _ h9 => h9) rfl dX4_tell_102 ?_
    refine va_get (D := D) (ci := 1) (v := .long (LG 0)) (C := RX2) (T := TX2) (N := 4) hx hb hts inX4_tell_X2 hown hK hP 3 rfl rfl 0 (by decide) (hts (.fieldLink RX4 332 "BondDesk$Ledger" "coupons" "J") (by decide +kernel)) (fun _ h9 => h9) rfl dX4_tell_105 ?_
    exact W.lret hx hb hr (fun t ht _ => ⟨_, rfl, Option.some.inj hf, ht⟩) (fun q hq => absurd hq List.not_mem_nil) dX4_tell_108
  have hf := ie hf c10
  by_cases c11 : a0 = 8
  · have hf := it hf c11
    refine lv_tableIn (off := 108) (tgt := 109) hx hb dX4_tell_1 (by rw [c11]; decide) (by rw [c11]; decide) (by rw [c11]; rfl) (by decide) ?_
    refine lv_aload_n hx hb dX4_tell_109 rfl (lv_at hl 0 rfl) ?_
    refine va_get (D := D) (ci := 3) (v := .ref ql) (C := RX4) (T := TX4) (N := 8) hx hb hts inX4_tell_X4 hown hK hP 0 rfl rfl 2 (by decide) (hts (.fieldLink RX4 22 "BondDesk" "paid" "LBondDesk$Ledger;") (by decide +kernel)) (fun _ h9 => h9) rfl dX4_tell_110 ?_
    refine va_get (D := D) (ci := 1) (v := .long (LG 1)) (C := RX2) (T := TX2) (N := 4) hx hb hts inX4_tell_X2 hown hK hP 3 rfl rfl 1 (by decide) (hts (.fieldLink RX4 335 "BondDesk$Ledger" "sinking" "J") (by decide +kernel)) (fun _ h9 => h9) rfl dX4_tell_113 ?_
    exact W.lret hx hb hr (fun t ht _ => ⟨_, rfl, Option.some.inj hf, ht⟩) (fun q hq => absurd hq List.not_mem_nil) dX4_tell_116
  have hf := ie hf c11
  by_cases c12 : a0 = 9
  · have hf := it hf c12
    refine lv_tableIn (off := 116) (tgt := 117) hx hb dX4_tell_1 (by rw [c12]; decide) (by rw [c12]; decide) (by rw [c12]; rfl) (by decide) ?_
    refine lv_aload_n hx hb dX4_tell_117 rfl (lv_at hl 0 rfl) ?_
    refine va_get (D := D) (ci := 3) (v := .ref ql) (C := RX4) (T := TX4) (N := 8) hx hb hts inX4_tell_X4 hown hK hP 0 rfl rfl 2 (by decide) (hts (.fieldLink RX4 22 "BondDesk" "paid" "LBondDesk$Ledger;") (by decide +kernel)) (fun _ h9 => h9) rfl dX4_tell_118 ?_
    refine va_get (D := D) (ci := 1) (v := .long (LG 2)) (C := RX2) (T := TX2) (N := 4) hx hb hts inX4_tell_X2 hown hK hP 3 rfl rfl 2 (by decide) (hts (.fieldLink RX4 338 "BondDesk$Ledger" "calls" "J") (by decide +kernel)) (fun _ h9 => h9) rfl dX4_tell_121 ?_
    exact W.lret hx hb hr (fun t ht _ => ⟨_, rfl, Option.some.inj hf, ht⟩) (fun q hq => absurd hq List.not_mem_nil) dX4_tell_124
  have hf := ie hf c12
  by_cases c13 : a0 = 10
  · have hf := it hf c13
    refine lv_tableIn (off := 124) (tgt := 125) hx hb dX4_tell_1 (by rw [c13]; decide) (by rw [c13]; decide) (by rw [c13]; rfl) (by decide) ?_
    refine lv_aload_n hx hb dX4_tell_125 rfl (lv_at hl 0 rfl) ?_
    refine va_get (D := D) (ci := 3) (v := .ref ql) (C := RX4) (T := TX4) (N := 8) hx hb hts inX4_tell_X4 hown hK hP 0 rfl rfl 2 (by decide) (hts (.fieldLink RX4 22 "BondDesk" "paid" "LBondDesk$Ledger;") (by decide +kernel)) (fun _ h9 => h9) rfl dX4_tell_126 ?_
    refine va_get (D := D) (ci := 1) (v := .long (LG 3)) (C := RX2) (T := TX2) (N := 4) hx hb hts inX4_tell_X2 hown hK hP 3 rfl rfl 3 (by decide) (hts (.fieldLink RX4 341 "BondDesk$Ledger" "ends" "J") (by decide +kernel)) (fun _ h9 => h9) rfl dX4_tell_129 ?_
    exact W.lret hx hb hr (fun t ht _ => ⟨_, rfl, Option.some.inj hf, ht⟩) (fun q hq => absurd hq List.not_mem_nil) dX4_tell_132
  have hf := ie hf c13
  have tc1 : ¬ a0.toInt = 0 := ne_ti c1
  have tc2 : ¬ a0.toInt = 1 := ne_ti c2
  have tc3 : ¬ a0.toInt = 2 := ne_ti c3
  have tc4 : ¬ a0.toInt = 3 := ne_ti c4
  have tc5 : ¬ a0.toInt = 4 := ne_ti c5
  have tc7 : ¬ a0.toInt = 5 := ne_ti c7
  have tc8 : ¬ a0.toInt = 6 := ne_ti c8
  have tc10 : ¬ a0.toInt = 7 := ne_ti c10
  have tc11 : ¬ a0.toInt = 8 := ne_ti c11
  have tc12 : ¬ a0.toInt = 9 := ne_ti c12
  have tc13 : ¬ a0.toInt = 10 := ne_ti c13
  refine lv_tableOut (tgt := 133) hx hb dX4_tell_1 (by omega) (by decide) ?_
  refine lv_aload_n hx hb dX4_tell_133 rfl (lv_at hl 0 rfl) ?_
  obtain ⟨v14, hv14, hf⟩ := ob hf
  refine cSl (W.runV (As := []) (rest := []) ⟨hx, hb, hml, hown, hts⟩ (m_X4_worthHeld l D cI cJ cO ah qk qh qb ql ab as_ ad K kc hol LG nb bB bS bT bn bds N v14 hv14) (cwV 0 hts gX4_tell_X4_worthHeld rfl rfl rfl (by decide +kernel) ⟨(Nat.le_of_ble_eq_true rfl), (Nat.le_of_ble_eq_true rfl)⟩) ⟨pwB_blind, va_recv hK hP (ci := 3) (q0 := 0) rfl rfl, fun U hU hW => ⟨rfl, pwB_at hZ va_S.rf hP hB hK hU hW (Or.inr rfl) [0, 1, 2, 3] rfl⟩⟩ rfl rfl hl.1 rfl (lv_room (Nat.le_of_ble_eq_true rfl)) dX4_tell_134 ⟨(Nat.le_of_ble_eq_true rfl), (Nat.le_of_ble_eq_true rfl)⟩) ?_
  exact W.lret hx hb hr (fun t ht _ => ⟨_, rfl, Option.some.inj hf, ht⟩) (fun q hq => absurd hq List.not_mem_nil) dX4_tell_137
theorem inX4_digest_X4 : ∀ w ∈ wsX40, w ∈ wsX4_digest := by decide +kernel
set_option maxHeartbeats 4000000 in
set_option maxRecDepth 100000 in
theorem m_X4_digest (l : Launch) (D : va_G) (cI cJ cO : ClassId) (ah : Nat) (qk : Nat) (qh : Nat) (qb : Nat) (ql : Nat) (ab : Nat → Nat) (as_ : Nat → Nat) (ad : Nat → Nat) (K : Nat → Int32) (kc : Int64) (hol : Nat → Int32) (LG : Nat → Int64) (nb : Nat) (bB : Nat → Nat → Int32) (bS : Nat → Nat → Int32) (bT : Nat → Nat → Int64) (bn : Nat → Nat) (bds : Nat → Nat → Int32) (N : Nat) (r : Int64) (hf : f_X4_digest N K kc hol LG nb bB bS bT bn bds = some r) : Met l yX4_digest wsX4_digest ({ frames := 6, cells := 0, slots := 0, locals := 140 }) (va_Pc [.ref qk] (pwB D (ty3 cI cJ cO) (some ah) [eK qk qh qb ql K kc, eG cI qh hol, eF cO qb nb ab, eL ql LG] nb (fam cI ab as_ ad bB bS bT bn bds))) (QSl r) 0 0 (fun _ => False) := by
  refine Met.ofW (cc := cX4_digest) (maxL := 7) (ret := (some .long)) (by decide) rfl ?_
  intro p e s m args below meth c s₁ Bd hml hv
  obtain ⟨rfl, ⟨hZ, hP, hK⟩, hB⟩ := hv
  have hx := Bd.exec
  have hb := Bd.bytes
  have hr := Bd.returns
  have hts := atoms_spec (ws := wsX4_digest) Bd.pre
  have hown : s.vm.findClass RX4 = some m.cls := findClass_of_methodNamed Bd.named
  have hlocks := Bd.notSynchronized
  have hl := lv_entry ([.ref qk]) (n := 7) (Nat.le_of_ble_eq_true rfl)
  rw [lg_entry_eq]
  generalize (lg_sl ([.ref qk]) ++ List.replicate (7 - (lg_sl ([.ref qk])).length) Slot.unset).toArray = ls at hl ⊢
  have hl : lv_has ls 7 [(0, .ref qk)] := hl
  unfold f_X4_digest at hf
  refine lv_ldc2 hx hb hown (hts (.constantLong RX4 302 (647)) (by decide +kernel)) dX4_digest_0 ?_
  refine lv_lstore_n (lv' := [(1, .long 647), (0, .ref qk)]) hx hb dX4_digest_3 rfl hl (by decide) rfl (fun ls hl => ?_)
  refine lv_iconst (v := 0) hx hb dX4_digest_4 (by decide) ?_
  refine lv_istore_n (lv' := [(3, .int 0), (1, .long 647), (0, .ref qk)]) hx hb dX4_digest_5 rfl hl (by decide) rfl (fun ls hl => ?_)
  obtain ⟨K3, hK3, hf⟩ := kx_s (P := fun k => f_X4_digest_L6 N K kc LG nb bB bS bT bn bds k N 647 0 = some r) hf
  have JK3 : ∀ (x4 : Int64) (ls : Array Slot), lv_has ls 7 [(0, .ref qk), (1, .long x4)] → K3 x4 = some r → W p l e (headSpec wsX4_digest ({ frames := 6, cells := 0, slots := 0, locals := 140 })).room s m ([.ref qk] : List Value).toArray below meth c s.heap [] 0 0 (MQ below (QSl r) ([.ref qk] : List Value).toArray s 0 0 (fun _ => False)) (F0 m 30 ls []) := by
    intro x4 ls hl hf
    rw [hK3] at hf
    refine lv_iconst (v := 0) hx hb dX4_digest_30 (by decide) ?_
    refine lv_istore_n (lv' := [(3, .int 0), (0, .ref qk), (1, .long x4)]) hx hb dX4_digest_31 rfl hl (by decide) rfl (fun ls hl => ?_)
    obtain ⟨K12, hK12, hf⟩ := kx_s (P := fun k => f_X4_digest_L32 K hol k N x4 0 = some r) hf
    have JK12 : ∀ (x13 : Int64) (ls : Array Slot), lv_has ls 7 [(0, .ref qk), (1, .long x13)] → K12 x13 = some r → W p l e (headSpec wsX4_digest ({ frames := 6, cells := 0, slots := 0, locals := 140 })).room s m ([.ref qk] : List Value).toArray below meth c s.heap [] 0 0 (MQ below (QSl r) ([.ref qk] : List Value).toArray s 0 0 (fun _ => False)) (F0 m 69 ls []) := by
      intro x13 ls hl hf
      rw [hK12] at hf
      refine lv_aload_n hx hb dX4_digest_69 rfl (lv_at hl 0 rfl) ?_
      refine va_get (D := D) (ci := 3) (v := .ref qb) (C := RX4) (T := TX4) (N := 8) hx hb hts inX4_digest_X4 hown hK hP 0 rfl rfl 1 (by decide) (hts (.fieldLink RX4 15 "BondDesk" "bonds" "[LBondDesk$Bond;") (by decide +kernel)) (fun _ h9 => h9) rfl dX4_digest_70 ?_
      refine lv_astore_n (lv' := [(3, .ref qb), (0, .ref qk), (1, .long x13)]) hx hb dX4_digest_73 rfl hl (by decide) rfl (fun ls hl => ?_)
      refine lv_aload_n hx hb dX4_digest_74 rfl (lv_at hl 0 rfl) ?_
      refine va_alen (v := 10) hx hb hK hP 2 2 rfl rfl rfl dX4_digest_75 ?_
      refine lv_istore (lv' := [(4, .int 10), (3, .ref qb), (0, .ref qk), (1, .long x13)]) hx hb dX4_digest_76 hl (by decide) rfl (fun ls hl => ?_)
      refine lv_iconst (v := 0) hx hb dX4_digest_78 (by decide) ?_
      refine lv_istore (lv' := [(5, .int 0), (4, .int 10), (3, .ref qb), (0, .ref qk), (1, .long x13)]) hx hb dX4_digest_79 hl (by decide) rfl (fun ls hl => ?_)
      have LP81 : ∀ (n22 : Nat) (x20 : Int64) (x21 : Int32) (ls : Array Slot), lv_has ls 7 [(0, .ref qk), (1, .long x20), (3, .ref qb), (4, .int 10), (5, .int x21)] → f_X4_digest_L81 nb N bB bS bT bn bds K n22 x20 x21 = some r → W p l e (headSpec wsX4_digest ({ frames := 6, cells := 0, slots := 0, locals := 140 })).room s m ([.ref qk] : List Value).toArray below meth c s.heap [] 0 0 (MQ below (QSl r) ([.ref qk] : List Value).toArray s 0 0 (fun _ => False)) (F0 m 81 ls []) := by
        intro n22
        induction n22 with
        | zero => intro x20 x21 ls hl hf; exact (no_s hf).elim
        | succ n22 ih22 =>
          intro x20 x21 ls hl hf
          rw [f_X4_digest_L81] at hf
          refine lv_iload hx hb dX4_digest_81 (lv_at hl 4 rfl) ?_
          refine lv_iload hx hb dX4_digest_83 (lv_at hl 3 rfl) ?_
          refine lv_icmp_ge (tgt := 116) hx hb dX4_digest_85 (by decide) (fun c23 => ?_) (fun c23 => ?_)
          · have hf := it hf c23
            refine lv_lload_n hx hb dX4_digest_116 rfl (lv_at hl 1 rfl) ?_
            exact W.lret hx hb hr (fun t ht _ => ⟨_, rfl, Option.some.inj hf, ht⟩) (fun q hq => absurd hq List.not_mem_nil) dX4_digest_117
          · have hf := ie hf c23
            refine lv_aload_n hx hb dX4_digest_88 rfl (lv_at hl 2 rfl) ?_
            refine lv_iload hx hb dX4_digest_89 (lv_at hl 4 rfl) ?_
            obtain ⟨c24, hf⟩ := gd_s hf
            refine aldB hx hb hK hP 2 2 rfl rfl c24 dX4_digest_91 (fun c25 => ?_) (fun c25 => ?_)
            · have hf := it hf c25
              refine lv_astore (lv' := [(6, .ref (ab x21.toNatClampNeg)), (0, .ref qk), (1, .long x20), (3, .ref qb), (4, .int 10), (5, .int x21)]) hx hb dX4_digest_92 hl (by decide) rfl (fun ls hl => ?_)
              refine lv_aload hx hb dX4_digest_94 (lv_at hl 0 rfl) ?_
              refine lv_ifnull hx hb dX4_digest_96 ?_
              refine lv_aload hx hb dX4_digest_99 (lv_at hl 0 rfl) ?_
              refine lv_lload_n hx hb dX4_digest_101 rfl (lv_at hl 2 rfl) ?_
              refine lv_aload_n hx hb dX4_digest_102 rfl (lv_at hl 1 rfl) ?_
              refine va_get (D := D) (ci := 3) (v := .int (K 5)) (C := RX4) (T := TX4) (N := 8) hx hb hts inX4_digest_X4 hown hK hP 0 rfl rfl 5 (by decide) (hts (.fieldLink RX4 27 "BondDesk" "today" "I") (by decide +kernel)) (fun _ h9 => h9) rfl dX4_digest_103 ?_
              obtain ⟨v26, hv26, hf⟩ := ob hf
              refine cSl (W.runV (As := [.long x20, .int (K 5)]) (rest := []) ⟨hx, hb, hml, hown, hts⟩ (m_X0_addTo l D cI cJ cO ah (ab x21.toNatClampNeg) (as_ x21.toNatClampNeg) (ad x21.toNatClampNeg) (bB x21.toNatClampNeg) (bS x21.toNatClampNeg) (bT x21.toNatClampNeg) (bn x21.toNatClampNeg) (bds x21.toNatClampNeg) x20 (K 5) N v26 hv26) (cwV 2 hts gX4_digest_X0_addTo rfl rfl rfl (by decide +kernel) ⟨(Nat.le_of_ble_eq_true rfl), (Nat.le_of_ble_eq_true rfl)⟩) ⟨pw_blind, va_recv hK (hB x21.toNatClampNeg c25) (ci := 0) (q0 := 2) rfl rfl, fun U hU hW => ⟨rfl, pw_at hZ va_S.rf (hB x21.toNatClampNeg c25) hK hU hW (Or.inr rfl) [0, 1, 2] rfl⟩⟩ rfl rfl hl.1 rfl (lv_room (Nat.le_of_ble_eq_true rfl)) dX4_digest_106 ⟨(Nat.le_of_ble_eq_true rfl), (Nat.le_of_ble_eq_true rfl)⟩) ?_
              refine lv_lstore_n (lv' := [(1, .long v26), (6, .ref (ab x21.toNatClampNeg)), (0, .ref qk), (3, .ref qb), (4, .int 10), (5, .int x21)]) hx hb dX4_digest_109 rfl hl (by decide) rfl (fun ls hl => ?_)
              obtain ⟨x27, ex27⟩ : ∃ y : Int32, y = x21 + 1 := ⟨_, rfl⟩
              have hf := bd_s hf ex27
              refine lv_iinc (v := x27) (lv' := [(5, .int x27), (1, .long v26), (6, .ref (ab x21.toNatClampNeg)), (0, .ref qk), (3, .ref qb), (4, .int 10)]) hx hb dX4_digest_110 hl (k := 5) rfl (by rw [ex27]; rfl) (by decide) rfl (fun ls hl => ?_)
              refine lv_goto (tgt := 81) hx hb dX4_digest_113 (by decide) ?_
              exact ih22 v26 x27 ls (lv_sub hl [3, 1, 4, 5, 0] rfl) hf
            · have hf := ie hf c25
              refine lv_astoreN (lv' := [(6, .null), (0, .ref qk), (1, .long x20), (3, .ref qb), (4, .int 10), (5, .int x21)]) hx hb dX4_digest_92 hl (by decide) rfl (fun ls hl => ?_)
              refine lv_aloadN hx hb dX4_digest_94 (lv_at hl 0 rfl) ?_
              refine lv_ifnullN (tgt := 110) hx hb dX4_digest_96 (by decide) ?_
              obtain ⟨x28, ex28⟩ : ∃ y : Int32, y = x21 + 1 := ⟨_, rfl⟩
              have hf := bd_s hf ex28
              refine lv_iinc (v := x28) (lv' := [(5, .int x28), (6, .null), (0, .ref qk), (1, .long x20), (3, .ref qb), (4, .int 10)]) hx hb dX4_digest_110 hl (k := 5) rfl (by rw [ex28]; rfl) (by decide) rfl (fun ls hl => ?_)
              refine lv_goto (tgt := 81) hx hb dX4_digest_113 (by decide) ?_
              exact ih22 x20 x28 ls (lv_sub hl [2, 3, 4, 5, 0] rfl) hf
      exact LP81 N x13 0 ls (lv_sub hl [3, 4, 2, 1, 0] rfl) hf
    have LP32 : ∀ (n14 : Nat) (x10 : Int64) (x11 : Int32) (ls : Array Slot), lv_has ls 7 [(0, .ref qk), (1, .long x10), (3, .int x11)] → f_X4_digest_L32 K hol K12 n14 x10 x11 = some r → W p l e (headSpec wsX4_digest ({ frames := 6, cells := 0, slots := 0, locals := 140 })).room s m ([.ref qk] : List Value).toArray below meth c s.heap [] 0 0 (MQ below (QSl r) ([.ref qk] : List Value).toArray s 0 0 (fun _ => False)) (F0 m 32 ls []) := by
      intro n14
      induction n14 with
      | zero => intro x10 x11 ls hl hf; exact (no_s hf).elim
      | succ n14 ih14 =>
        intro x10 x11 ls hl hf
        rw [f_X4_digest_L32] at hf
        refine lv_iload_n hx hb dX4_digest_32 rfl (lv_at hl 2 rfl) ?_
        refine lv_aload_n hx hb dX4_digest_33 rfl (lv_at hl 0 rfl) ?_
        refine va_get (D := D) (ci := 3) (v := .int (K 3)) (C := RX4) (T := TX4) (N := 8) hx hb hts inX4_digest_X4 hown hK hP 0 rfl rfl 3 (by decide) (hts (.fieldLink RX4 70 "BondDesk" "holidayCount" "I") (by decide +kernel)) (fun _ h9 => h9) rfl dX4_digest_34 ?_
        refine lv_icmp_ge (tgt := 69) hx hb dX4_digest_37 (by decide) (fun c15 => ?_) (fun c15 => ?_)
        · have hf := it hf c15
          exact JK12 x10 ls (lv_sub hl [0, 1] rfl) hf
        · have hf := ie hf c15
          refine lv_iload_n hx hb dX4_digest_40 rfl (lv_at hl 2 rfl) ?_
          refine lv_aload_n hx hb dX4_digest_41 rfl (lv_at hl 0 rfl) ?_
          refine va_get (D := D) (ci := 3) (v := .ref qh) (C := RX4) (T := TX4) (N := 8) hx hb hts inX4_digest_X4 hown hK hP 0 rfl rfl 0 (by decide) (hts (.fieldLink RX4 9 "BondDesk" "holidays" "[I") (by decide +kernel)) (fun _ h9 => h9) rfl dX4_digest_42 ?_
          refine va_alen (v := 30) hx hb hK hP 1 0 rfl rfl rfl dX4_digest_45 ?_
          refine lv_icmp_ge (tgt := 69) hx hb dX4_digest_46 (by decide) (fun c16 => ?_) (fun c16 => ?_)
          · have hf := it hf c16
            exact JK12 x10 ls (lv_sub hl [0, 1] rfl) hf
          · have hf := ie hf c16
            refine lv_lload_n hx hb dX4_digest_49 rfl (lv_at hl 1 rfl) ?_
            refine lv_ldc2 hx hb hown (hts (.constantLong RX4 304 (31)) (by decide +kernel)) dX4_digest_50 ?_
            refine lv_lmul hx hb dX4_digest_53 ?_
            refine lv_aload_n hx hb dX4_digest_54 rfl (lv_at hl 0 rfl) ?_
            refine va_get (D := D) (ci := 3) (v := .ref qh) (C := RX4) (T := TX4) (N := 8) hx hb hts inX4_digest_X4 hown hK hP 0 rfl rfl 0 (by decide) (hts (.fieldLink RX4 9 "BondDesk" "holidays" "[I") (by decide +kernel)) (fun _ h9 => h9) rfl dX4_digest_55 ?_
            refine lv_iload_n hx hb dX4_digest_58 rfl (lv_at hl 2 rfl) ?_
            obtain ⟨c17, hf⟩ := gd_s hf
            refine va_iald hx hb hK hP 1 0 rfl rfl c17 dX4_digest_59 ?_
            refine lv_i2l hx hb dX4_digest_60 rfl ?_
            refine lv_ladd hx hb dX4_digest_61 ?_
            refine lv_topl (fun x18 ex18 => ?_)
            have hf := bd_s hf ex18
            refine lv_lstore_n (lv' := [(1, .long x18), (0, .ref qk), (3, .int x11)]) hx hb dX4_digest_62 rfl hl (by decide) rfl (fun ls hl => ?_)
            obtain ⟨x19, ex19⟩ : ∃ y : Int32, y = x11 + 1 := ⟨_, rfl⟩
            have hf := bd_s hf ex19
            refine lv_iinc (v := x19) (lv' := [(3, .int x19), (1, .long x18), (0, .ref qk)]) hx hb dX4_digest_63 hl (k := 2) rfl (by rw [ex19]; rfl) (by decide) rfl (fun ls hl => ?_)
            refine lv_goto (tgt := 32) hx hb dX4_digest_66 (by decide) ?_
            exact ih14 x18 x19 ls (lv_sub hl [2, 1, 0] rfl) hf
    exact LP32 N x4 0 ls (lv_sub hl [1, 2, 0] rfl) hf
  have LP6 : ∀ (n5 : Nat) (x1 : Int64) (x2 : Int32) (ls : Array Slot), lv_has ls 7 [(0, .ref qk), (1, .long x1), (3, .int x2)] → f_X4_digest_L6 N K kc LG nb bB bS bT bn bds K3 n5 x1 x2 = some r → W p l e (headSpec wsX4_digest ({ frames := 6, cells := 0, slots := 0, locals := 140 })).room s m ([.ref qk] : List Value).toArray below meth c s.heap [] 0 0 (MQ below (QSl r) ([.ref qk] : List Value).toArray s 0 0 (fun _ => False)) (F0 m 6 ls []) := by
    intro n5
    induction n5 with
    | zero => intro x1 x2 ls hl hf; exact (no_s hf).elim
    | succ n5 ih5 =>
      intro x1 x2 ls hl hf
      rw [f_X4_digest_L6] at hf
      refine lv_iload_n hx hb dX4_digest_6 rfl (lv_at hl 2 rfl) ?_
      refine lv_bipush (v := 11) hx hb dX4_digest_7 (by decide) ?_
      refine lv_icmp_gt (tgt := 30) hx hb dX4_digest_9 (by decide) (fun c6 => ?_) (fun c6 => ?_)
      · have hf := it hf c6
        exact JK3 x1 ls (lv_sub hl [0, 1] rfl) hf
      · have hf := ie hf c6
        refine lv_lload_n hx hb dX4_digest_12 rfl (lv_at hl 1 rfl) ?_
        refine lv_ldc2 hx hb hown (hts (.constantLong RX4 304 (31)) (by decide +kernel)) dX4_digest_13 ?_
        refine lv_lmul hx hb dX4_digest_16 ?_
        refine lv_aload_n hx hb dX4_digest_17 rfl (lv_at hl 0 rfl) ?_
        refine lv_iload_n hx hb dX4_digest_18 rfl (lv_at hl 2 rfl) ?_
        obtain ⟨v7, hv7, hf⟩ := ob hf
        refine cSl (W.runV (As := [.int x2]) (rest := [.long (x1 * 31)]) ⟨hx, hb, hml, hown, hts⟩ (m_X4_tell l D cI cJ cO ah qk qh qb ql ab as_ ad K kc hol LG nb bB bS bT bn bds x2 N v7 hv7) (cwV 1 hts gX4_digest_X4_tell rfl rfl rfl (by decide +kernel) ⟨(Nat.le_of_ble_eq_true rfl), (Nat.le_of_ble_eq_true rfl)⟩) ⟨pwB_blind, va_recv hK hP (ci := 3) (q0 := 0) rfl rfl, fun U hU hW => ⟨rfl, pwB_at hZ va_S.rf hP hB hK hU hW (Or.inr rfl) [0, 1, 2, 3] rfl⟩⟩ rfl rfl hl.1 rfl (lv_room (Nat.le_of_ble_eq_true rfl)) dX4_digest_19 ⟨(Nat.le_of_ble_eq_true rfl), (Nat.le_of_ble_eq_true rfl)⟩) ?_
        refine lv_ladd hx hb dX4_digest_22 ?_
        refine lv_topl (fun x8 ex8 => ?_)
        have hf := bd_s hf ex8
        refine lv_lstore_n (lv' := [(1, .long x8), (0, .ref qk), (3, .int x2)]) hx hb dX4_digest_23 rfl hl (by decide) rfl (fun ls hl => ?_)
        obtain ⟨x9, ex9⟩ : ∃ y : Int32, y = x2 + 1 := ⟨_, rfl⟩
        have hf := bd_s hf ex9
        refine lv_iinc (v := x9) (lv' := [(3, .int x9), (1, .long x8), (0, .ref qk)]) hx hb dX4_digest_24 hl (k := 2) rfl (by rw [ex9]; rfl) (by decide) rfl (fun ls hl => ?_)
        refine lv_goto (tgt := 6) hx hb dX4_digest_27 (by decide) ?_
        exact ih5 x8 x9 ls (lv_sub hl [2, 1, 0] rfl) hf
  exact LP6 N 647 0 ls (lv_sub hl [2, 1, 0] rfl) hf
theorem atX4_requireDate_48 : ∀ w ∈ (vx_atS RX4 48 "java/lang/IllegalArgumentException" ["java/lang/RuntimeException", "java/lang/Exception"]).filter goodWord, w ∈ wsX4_requireDate := by decide +kernel
set_option maxHeartbeats 4000000 in
set_option maxRecDepth 100000 in
theorem m_X4_requireDate (l : Launch) (D : va_G) (cI cJ cO : ClassId) (ah : Nat) (a0 : Int32) (r : Unit ⊕ String) (hl0 : l.stackTraces = false) (hf : f_X4_requireDate a0 = some r) : vx_Met l yX4_requireDate wsX4_requireDate ({ frames := 6, cells := 1, slots := 6, locals := 82 }) (va_Pc [.int a0] (pT (pw D (ty3 cI cJ cO) (some ah) []))) (QTv r) (XT r) 1 6 (fun _ => False) := by
  refine vx_ofW (cc := cX4_requireDate) (maxL := 1) (ret := none) (by decide) rfl ?_
  intro p e s m args below meth c s₁ Bd hml hte hv
  obtain ⟨rfl, ⟨hZ, hP, hK⟩, hT⟩ := hv
  have hx := Bd.exec
  have hb := Bd.bytes
  have hr := Bd.returns
  have hts := atoms_spec (ws := wsX4_requireDate) Bd.pre
  have hown : s.vm.findClass RX4 = some m.cls := findClass_of_methodNamed Bd.named
  have hlocks := Bd.notSynchronized
  have hl := lv_entry ([.int a0]) (n := 1) (Nat.le_of_ble_eq_true rfl)
  rw [lg_entry_eq]
  generalize (lg_sl ([.int a0]) ++ List.replicate (1 - (lg_sl ([.int a0])).length) Slot.unset).toArray = ls at hl ⊢
  have hl : lv_has ls 1 [(0, .int a0)] := hl
  unfold f_X4_requireDate at hf
  refine lv_iload_n hx hb dX4_requireDate_0 rfl (lv_at hl 0 rfl) ?_
  obtain ⟨v1, hv1, hf⟩ := ob hf
  refine cSz (W.runS (As := [.int a0]) (rest := []) ⟨hx, hb, hml, hown, hts⟩ (m_X1_isDate l D cI cJ cO ah a0 v1 hv1) (va_cwS 1 hts gX4_requireDate_X1_isDate rfl rfl rfl (by decide +kernel) ⟨(Nat.le_of_ble_eq_true rfl), (Nat.le_of_ble_eq_true rfl)⟩) ⟨pw_blind, fun U hU hW => ⟨rfl, pw_at hZ va_S.rf hP hK hU hW (Or.inr rfl) [] rfl⟩⟩ rfl rfl hl.1 rfl (lv_room (Nat.le_of_ble_eq_true rfl)) dX4_requireDate_1 ⟨(Nat.le_of_ble_eq_true rfl), (Nat.le_of_ble_eq_true rfl)⟩) (fun zv1 => ?_)
  refine lv_if_ne (tgt := 17) hx hb dX4_requireDate_4 (by decide) (fun c2 => ?_) (fun c2 => ?_)
  · have hf := ie hf c2
    refine vx_ret ?_
    refine W.widen (k := 1) (n := 6) (Nat.le_of_ble_eq_true rfl) (Nat.le_of_ble_eq_true rfl) ?_
    exact W.vret hx hb hr (fun t ht _ => ⟨rfl, (Option.some.inj hf).symm, ht⟩) (fun q hq => absurd hq List.not_mem_nil) dX4_requireDate_17
  · have hf := it hf c2
    obtain ⟨sa, hsa⟩ := hT.2.2.1 (87, "there is no such date") (by decide +kernel)
    exact vx_throwS (names := ["java/lang/RuntimeException", "java/lang/Exception"]) (A := (fun _ => False)) hx hb hl0 hown (by decide) (by decide) (hts (.classLink RX4 44 "java/lang/IllegalArgumentException") (by decide +kernel)) (hts (.initialized "java/lang/IllegalArgumentException") (by decide +kernel)) hsa (vx_hat (fun w hw => hts w (atX4_requireDate_48 w hw)) thr_ng48 (fun w hw => va_any (thr_ot w hw) (hT.2.2.2 w hw))) (by decide +kernel) hT.1 hT.2.1 va_S.rf (hl.1.trans hml.symm) dX4_requireDate_7 dX4_requireDate_10 dX4_requireDate_11 dX4_requireDate_13 dX4_requireDate_16 (fun x h => (hte x h).elim) (Nat.le_of_ble_eq_true rfl) (Nat.le_of_ble_eq_true rfl) (Nat.le_of_ble_eq_true rfl) (Nat.le_of_ble_eq_true rfl) hlocks (fun t _ h1 h2 => ⟨(Option.some.inj hf).symm, h1, fun q h3 _ => h2 q h3⟩) (fun z hz => absurd hz List.not_mem_nil) (Nat.le_of_ble_eq_true rfl) (Nat.le_of_ble_eq_true rfl)
theorem atX4_requireRate_48 : ∀ w ∈ (vx_atS RX4 48 "java/lang/IllegalArgumentException" ["java/lang/RuntimeException", "java/lang/Exception"]).filter goodWord, w ∈ wsX4_requireRate := by decide +kernel
set_option maxHeartbeats 4000000 in
set_option maxRecDepth 100000 in
theorem m_X4_requireRate (l : Launch) (D : va_G) (cI cJ cO : ClassId) (ah : Nat) (a0 : Int32) (r : Unit ⊕ String) (hl0 : l.stackTraces = false) (hf : f_X4_requireRate a0 = some r) : vx_Met l yX4_requireRate wsX4_requireRate ({ frames := 6, cells := 1, slots := 6, locals := 82 }) (va_Pc [.int a0] (pT (pw D (ty3 cI cJ cO) (some ah) []))) (QTv r) (XT r) 1 6 (fun _ => False) := by
  refine vx_ofW (cc := cX4_requireRate) (maxL := 1) (ret := none) (by decide) rfl ?_
  intro p e s m args below meth c s₁ Bd hml hte hv
  obtain ⟨rfl, ⟨hZ, hP, hK⟩, hT⟩ := hv
  have hx := Bd.exec
  have hb := Bd.bytes
  have hr := Bd.returns
  have hts := atoms_spec (ws := wsX4_requireRate) Bd.pre
  have hown : s.vm.findClass RX4 = some m.cls := findClass_of_methodNamed Bd.named
  have hlocks := Bd.notSynchronized
  have hl := lv_entry ([.int a0]) (n := 1) (Nat.le_of_ble_eq_true rfl)
  rw [lg_entry_eq]
  generalize (lg_sl ([.int a0]) ++ List.replicate (1 - (lg_sl ([.int a0])).length) Slot.unset).toArray = ls at hl ⊢
  have hl : lv_has ls 1 [(0, .int a0)] := hl
  unfold f_X4_requireRate at hf
  refine lv_iload_n hx hb dX4_requireRate_0 rfl (lv_at hl 0 rfl) ?_
  refine lv_if_lt (tgt := 11) hx hb dX4_requireRate_1 (by decide) (fun c1 => ?_) (fun c1 => ?_)
  · have hf := it hf c1
    obtain ⟨sa, hsa⟩ := hT.2.2.1 (199, "rate is not 0 to 2000") (by decide +kernel)
    exact vx_throwS (names := ["java/lang/RuntimeException", "java/lang/Exception"]) (A := (fun _ => False)) hx hb hl0 hown (by decide) (by decide) (hts (.classLink RX4 44 "java/lang/IllegalArgumentException") (by decide +kernel)) (hts (.initialized "java/lang/IllegalArgumentException") (by decide +kernel)) hsa (vx_hat (fun w hw => hts w (atX4_requireRate_48 w hw)) thr_ng48 (fun w hw => va_any (thr_ot w hw) (hT.2.2.2 w hw))) (by decide +kernel) hT.1 hT.2.1 va_S.rf (hl.1.trans hml.symm) dX4_requireRate_11 dX4_requireRate_14 dX4_requireRate_15 dX4_requireRate_17 dX4_requireRate_20 (fun x h => (hte x h).elim) (Nat.le_of_ble_eq_true rfl) (Nat.le_of_ble_eq_true rfl) (Nat.le_of_ble_eq_true rfl) (Nat.le_of_ble_eq_true rfl) hlocks (fun t _ h1 h2 => ⟨(Option.some.inj hf).symm, h1, fun q h3 _ => h2 q h3⟩) (fun z hz => absurd hz List.not_mem_nil) (Nat.le_of_ble_eq_true rfl) (Nat.le_of_ble_eq_true rfl)
  · have hf := ie hf c1
    refine lv_iload_n hx hb dX4_requireRate_4 rfl (lv_at hl 0 rfl) ?_
    refine lv_sipush (v := 2000) hx hb dX4_requireRate_5 (by decide) ?_
    refine lv_icmp_le (tgt := 21) hx hb dX4_requireRate_8 (by decide) (fun c2 => ?_) (fun c2 => ?_)
    · have hf := it hf c2
      refine vx_ret ?_
      refine W.widen (k := 1) (n := 6) (Nat.le_of_ble_eq_true rfl) (Nat.le_of_ble_eq_true rfl) ?_
      exact W.vret hx hb hr (fun t ht _ => ⟨rfl, (Option.some.inj hf).symm, ht⟩) (fun q hq => absurd hq List.not_mem_nil) dX4_requireRate_21
    · have hf := ie hf c2
      obtain ⟨sa, hsa⟩ := hT.2.2.1 (199, "rate is not 0 to 2000") (by decide +kernel)
      exact vx_throwS (names := ["java/lang/RuntimeException", "java/lang/Exception"]) (A := (fun _ => False)) hx hb hl0 hown (by decide) (by decide) (hts (.classLink RX4 44 "java/lang/IllegalArgumentException") (by decide +kernel)) (hts (.initialized "java/lang/IllegalArgumentException") (by decide +kernel)) hsa (vx_hat (fun w hw => hts w (atX4_requireRate_48 w hw)) thr_ng48 (fun w hw => va_any (thr_ot w hw) (hT.2.2.2 w hw))) (by decide +kernel) hT.1 hT.2.1 va_S.rf (hl.1.trans hml.symm) dX4_requireRate_11 dX4_requireRate_14 dX4_requireRate_15 dX4_requireRate_17 dX4_requireRate_20 (fun x h => (hte x h).elim) (Nat.le_of_ble_eq_true rfl) (Nat.le_of_ble_eq_true rfl) (Nat.le_of_ble_eq_true rfl) (Nat.le_of_ble_eq_true rfl) hlocks (fun t _ h1 h2 => ⟨(Option.some.inj hf).symm, h1, fun q h3 _ => h2 q h3⟩) (fun z hz => absurd hz List.not_mem_nil) (Nat.le_of_ble_eq_true rfl) (Nat.le_of_ble_eq_true rfl)
theorem atX4_requireTerms_48 : ∀ w ∈ (vx_atS RX4 48 "java/lang/IllegalArgumentException" ["java/lang/RuntimeException", "java/lang/Exception"]).filter goodWord, w ∈ wsX4_requireTerms := by decide +kernel
set_option maxHeartbeats 4000000 in
set_option maxRecDepth 100000 in
theorem m_X4_requireTerms (l : Launch) (D : va_G) (cI cJ cO : ClassId) (ah : Nat) (a0 : Int32) (a1 : Int32) (a2 : Int32) (r : Unit ⊕ String) (hl0 : l.stackTraces = false) (hf : f_X4_requireTerms a0 a1 a2 = some r) : vx_Met l yX4_requireTerms wsX4_requireTerms ({ frames := 7, cells := 2, slots := 12, locals := 102 }) (va_Pc [.int a0, .int a1, .int a2] (pT (pw D (ty3 cI cJ cO) (some ah) []))) (QTv r) (XT r) 2 12 (fun _ => False) := by
  refine vx_ofW (cc := cX4_requireTerms) (maxL := 3) (ret := none) (by decide) rfl ?_
  intro p e s m args below meth c s₁ Bd hml hte hv
  obtain ⟨rfl, ⟨hZ, hP, hK⟩, hT⟩ := hv
  have hx := Bd.exec
  have hb := Bd.bytes
  have hr := Bd.returns
  have hts := atoms_spec (ws := wsX4_requireTerms) Bd.pre
  have hown : s.vm.findClass RX4 = some m.cls := findClass_of_methodNamed Bd.named
  have hlocks := Bd.notSynchronized
  have hl := lv_entry ([.int a0, .int a1, .int a2]) (n := 3) (Nat.le_of_ble_eq_true rfl)
  rw [lg_entry_eq]
  generalize (lg_sl ([.int a0, .int a1, .int a2]) ++ List.replicate (3 - (lg_sl ([.int a0, .int a1, .int a2])).length) Slot.unset).toArray = ls at hl ⊢
  have hl : lv_has ls 3 [(0, .int a0), (1, .int a1), (2, .int a2)] := hl
  unfold f_X4_requireTerms at hf
  refine lv_iload_n hx hb dX4_requireTerms_0 rfl (lv_at hl 0 rfl) ?_
  obtain ⟨v1, hv1, hf⟩ := exs hf
  refine xSv (vx_runS (As := [.int a0]) (rest := []) ⟨hx, hb, hml, hown, hts⟩ (m_X4_requireRate l D cI cJ cO ah a0 v1 hl0 hv1) (va_cwS 1 hts gX4_requireTerms_X4_requireRate rfl rfl rfl (by decide +kernel) ⟨(Nat.le_of_ble_eq_true rfl), (Nat.le_of_ble_eq_true rfl)⟩) ⟨pT_blind, fun U hU hW => ⟨rfl, pw_at hZ va_S.rf hP hK hU hW (Or.inr rfl) [] rfl, pX_at hT va_S.rf hU hW⟩⟩ rfl rfl hl.1 rfl (lv_room (Nat.le_of_ble_eq_true rfl)) dX4_requireTerms_1 ⟨(Nat.le_of_ble_eq_true rfl), (Nat.le_of_ble_eq_true rfl)⟩) (fun E ce q9 H1 locs1 hE hz9 hk9 hS9 hc9 hv9 hl9 => vx_widen (k := 2) (n := 12) (Nat.le_of_ble_eq_true rfl) (Nat.le_of_ble_eq_true rfl) (vx_out (fun x h => (hte x h).elim) hlocks hc9 hv9 hl9 (fun t ht _ => ⟨ex_r hf hE, by rw [ht]; exact hz9, fun q h3 _ => by rw [ht]; exact hk9 q h3⟩) (fun z hz => absurd hz (by rw [hS9]; exact List.not_mem_nil)) (Nat.le_refl _) (Nat.le_refl _))) (fun v2 ev2 => ?_)
  have hf := ex_l hf ev2
  refine lv_iload_n hx hb dX4_requireTerms_4 rfl (lv_at hl 1 rfl) ?_
  refine lv_iconst (v := 1) hx hb dX4_requireTerms_5 (by decide) ?_
  obtain ⟨K3, hK3, hf⟩ := jn_s hf
  have JK3 : ∀  (ls : Array Slot), lv_has ls 3 [(2, .int a2)] → K3 () = some r → W p l e (headSpec wsX4_requireTerms ({ frames := 7, cells := 2, slots := 12, locals := 102 })).room s m ([.int a0, .int a1, .int a2] : List Value).toArray below meth c s.heap [] 1 6 (vx_MQ below (QTv r) (XT r) ([.int a0, .int a1, .int a2] : List Value).toArray s 2 12 (fun _ => False)) (F0 m 35 ls []) := by
    intro  ls hl hf
    rw [hK3] at hf
    refine lv_iload_n hx hb dX4_requireTerms_35 rfl (lv_at hl 0 rfl) ?_
    refine lv_if_lt (tgt := 44) hx hb dX4_requireTerms_36 (by decide) (fun c4 => ?_) (fun c4 => ?_)
    · have hf := it hf c4
      obtain ⟨sa, hsa⟩ := hT.2.2.1 (197, "way is not 0 to 3") (by decide +kernel)
      exact vx_throwS (names := ["java/lang/RuntimeException", "java/lang/Exception"]) (A := (fun _ => False)) hx hb hl0 hown (by decide) (by decide) (hts (.classLink RX4 44 "java/lang/IllegalArgumentException") (by decide +kernel)) (hts (.initialized "java/lang/IllegalArgumentException") (by decide +kernel)) hsa (vx_hat (fun w hw => hts w (atX4_requireTerms_48 w hw)) thr_ng48 (fun w hw => va_any (thr_ot w hw) (hT.2.2.2 w hw))) (by decide +kernel) hT.1 hT.2.1 va_S.rf (hl.1.trans hml.symm) dX4_requireTerms_44 dX4_requireTerms_47 dX4_requireTerms_48 dX4_requireTerms_50 dX4_requireTerms_53 (fun x h => (hte x h).elim) (Nat.le_of_ble_eq_true rfl) (Nat.le_of_ble_eq_true rfl) (Nat.le_of_ble_eq_true rfl) (Nat.le_of_ble_eq_true rfl) hlocks (fun t _ h1 h2 => ⟨(Option.some.inj hf).symm, h1, fun q h3 _ => h2 q h3⟩) (fun z hz => absurd hz List.not_mem_nil) (Nat.le_of_ble_eq_true rfl) (Nat.le_of_ble_eq_true rfl)
    · have hf := ie hf c4
      refine lv_iload_n hx hb dX4_requireTerms_39 rfl (lv_at hl 0 rfl) ?_
      refine lv_iconst (v := 3) hx hb dX4_requireTerms_40 (by decide) ?_
      refine lv_icmp_le (tgt := 54) hx hb dX4_requireTerms_41 (by decide) (fun c5 => ?_) (fun c5 => ?_)
      · have hf := it hf c5
        refine vx_ret ?_
        refine W.widen (k := 2) (n := 12) (Nat.le_of_ble_eq_true rfl) (Nat.le_of_ble_eq_true rfl) ?_
        exact W.vret hx hb hr (fun t ht _ => ⟨rfl, (Option.some.inj hf).symm, ht⟩) (fun q hq => absurd hq List.not_mem_nil) dX4_requireTerms_54
      · have hf := ie hf c5
        obtain ⟨sa, hsa⟩ := hT.2.2.1 (197, "way is not 0 to 3") (by decide +kernel)
        exact vx_throwS (names := ["java/lang/RuntimeException", "java/lang/Exception"]) (A := (fun _ => False)) hx hb hl0 hown (by decide) (by decide) (hts (.classLink RX4 44 "java/lang/IllegalArgumentException") (by decide +kernel)) (hts (.initialized "java/lang/IllegalArgumentException") (by decide +kernel)) hsa (vx_hat (fun w hw => hts w (atX4_requireTerms_48 w hw)) thr_ng48 (fun w hw => va_any (thr_ot w hw) (hT.2.2.2 w hw))) (by decide +kernel) hT.1 hT.2.1 va_S.rf (hl.1.trans hml.symm) dX4_requireTerms_44 dX4_requireTerms_47 dX4_requireTerms_48 dX4_requireTerms_50 dX4_requireTerms_53 (fun x h => (hte x h).elim) (Nat.le_of_ble_eq_true rfl) (Nat.le_of_ble_eq_true rfl) (Nat.le_of_ble_eq_true rfl) (Nat.le_of_ble_eq_true rfl) hlocks (fun t _ h1 h2 => ⟨(Option.some.inj hf).symm, h1, fun q h3 _ => h2 q h3⟩) (fun z hz => absurd hz List.not_mem_nil) (Nat.le_of_ble_eq_true rfl) (Nat.le_of_ble_eq_true rfl)
  refine lv_icmp_eq (tgt := 35) hx hb dX4_requireTerms_6 (by decide) (fun c6 => ?_) (fun c6 => ?_)
  · have hf := it hf c6
    exact JK3  ls (lv_sub hl [2] rfl) hf
  · have hf := ie hf c6
    refine lv_iload_n hx hb dX4_requireTerms_9 rfl (lv_at hl 1 rfl) ?_
    refine lv_iconst (v := 2) hx hb dX4_requireTerms_10 (by decide) ?_
    refine lv_icmp_eq (tgt := 35) hx hb dX4_requireTerms_11 (by decide) (fun c7 => ?_) (fun c7 => ?_)
    · have hf := it hf c7
      exact JK3  ls (lv_sub hl [2] rfl) hf
    · have hf := ie hf c7
      refine lv_iload_n hx hb dX4_requireTerms_14 rfl (lv_at hl 1 rfl) ?_
      refine lv_iconst (v := 4) hx hb dX4_requireTerms_15 (by decide) ?_
      refine lv_icmp_eq (tgt := 35) hx hb dX4_requireTerms_16 (by decide) (fun c8 => ?_) (fun c8 => ?_)
      · have hf := it hf c8
        exact JK3  ls (lv_sub hl [2] rfl) hf
      · have hf := ie hf c8
        refine lv_iload_n hx hb dX4_requireTerms_19 rfl (lv_at hl 1 rfl) ?_
        refine lv_bipush (v := 12) hx hb dX4_requireTerms_20 (by decide) ?_
        refine lv_icmp_eq (tgt := 35) hx hb dX4_requireTerms_22 (by decide) (fun c9 => ?_) (fun c9 => ?_)
        · have hf := it hf c9
          exact JK3  ls (lv_sub hl [2] rfl) hf
        · have hf := ie hf c9
          obtain ⟨sa, hsa⟩ := hT.2.2.1 (195, "f is not 1, 2, 4 or 12") (by decide +kernel)
          exact vx_throwS (names := ["java/lang/RuntimeException", "java/lang/Exception"]) (A := (fun _ => False)) hx hb hl0 hown (by decide) (by decide) (hts (.classLink RX4 44 "java/lang/IllegalArgumentException") (by decide +kernel)) (hts (.initialized "java/lang/IllegalArgumentException") (by decide +kernel)) hsa (vx_hat (fun w hw => hts w (atX4_requireTerms_48 w hw)) thr_ng48 (fun w hw => va_any (thr_ot w hw) (hT.2.2.2 w hw))) (by decide +kernel) hT.1 hT.2.1 va_S.rf (hl.1.trans hml.symm) dX4_requireTerms_25 dX4_requireTerms_28 dX4_requireTerms_29 dX4_requireTerms_31 dX4_requireTerms_34 (fun x h => (hte x h).elim) (Nat.le_of_ble_eq_true rfl) (Nat.le_of_ble_eq_true rfl) (Nat.le_of_ble_eq_true rfl) (Nat.le_of_ble_eq_true rfl) hlocks (fun t _ h1 h2 => ⟨(Option.some.inj hf).symm, h1, fun q h3 _ => h2 q h3⟩) (fun z hz => absurd hz List.not_mem_nil) (Nat.le_of_ble_eq_true rfl) (Nat.le_of_ble_eq_true rfl)
theorem atX4_requireThere_77 : ∀ w ∈ (vx_atS RX4 77 "java/lang/IllegalStateException" ["java/lang/RuntimeException", "java/lang/Exception"]).filter goodWord, w ∈ wsX4_requireThere := by decide +kernel
set_option maxHeartbeats 4000000 in
set_option maxRecDepth 100000 in
theorem m_X4_requireThere (l : Launch) (D : va_G) (cI cJ cO : ClassId) (ah : Nat) (ht : Nat) (hs : Nat) (hd : Nat) (B : Nat → Int32) (S : Nat → Int32) (T : Nat → Int64) (n : Nat) (ds : Nat → Int32) (r : Unit ⊕ String) (hl0 : l.stackTraces = false) (hf : f_X4_requireThere B = some r) : vx_Met l yX4_requireThere wsX4_requireThere ({ frames := 6, cells := 1, slots := 6, locals := 82 }) (va_Pc [.ref ht] (pT (pw D (ty3 cI cJ cO) (some ah) [eD cI hd n ds, eS hs hd S T, eB ht hs B]))) (QTv r) (XT r) 1 6 (fun _ => False) := by
  refine vx_ofW (cc := cX4_requireThere) (maxL := 1) (ret := none) (by decide) rfl ?_
  intro p e s m args below meth c s₁ Bd hml hte hv
  obtain ⟨rfl, ⟨hZ, hP, hK⟩, hT⟩ := hv
  have hx := Bd.exec
  have hb := Bd.bytes
  have hr := Bd.returns
  have hts := atoms_spec (ws := wsX4_requireThere) Bd.pre
  have hown : s.vm.findClass RX4 = some m.cls := findClass_of_methodNamed Bd.named
  have hlocks := Bd.notSynchronized
  have hl := lv_entry ([.ref ht]) (n := 1) (Nat.le_of_ble_eq_true rfl)
  rw [lg_entry_eq]
  generalize (lg_sl ([.ref ht]) ++ List.replicate (1 - (lg_sl ([.ref ht])).length) Slot.unset).toArray = ls at hl ⊢
  have hl : lv_has ls 1 [(0, .ref ht)] := hl
  unfold f_X4_requireThere at hf
  refine lv_aload_n hx hb dX4_requireThere_0 rfl (lv_at hl 0 rfl) ?_
  obtain ⟨v1, hv1, hf⟩ := ob hf
  refine cSz (W.runV (As := []) (rest := []) ⟨hx, hb, hml, hown, hts⟩ (m_X0_isGone l D cI cJ cO ah ht hs hd B S T n ds v1 hv1) (cwV 0 hts gX4_requireThere_X0_isGone rfl rfl rfl (by decide +kernel) ⟨(Nat.le_of_ble_eq_true rfl), (Nat.le_of_ble_eq_true rfl)⟩) ⟨pw_blind, va_recv hK hP (ci := 0) (q0 := 2) rfl rfl, fun U hU hW => ⟨rfl, pw_at hZ va_S.rf hP hK hU hW (Or.inr rfl) [0, 1, 2] rfl⟩⟩ rfl rfl hl.1 rfl (lv_room (Nat.le_of_ble_eq_true rfl)) dX4_requireThere_1 ⟨(Nat.le_of_ble_eq_true rfl), (Nat.le_of_ble_eq_true rfl)⟩) (fun zv1 => ?_)
  refine lv_if_eq (tgt := 17) hx hb dX4_requireThere_4 (by decide) (fun c2 => ?_) (fun c2 => ?_)
  · have hf := it hf c2
    refine vx_ret ?_
    refine W.widen (k := 1) (n := 6) (Nat.le_of_ble_eq_true rfl) (Nat.le_of_ble_eq_true rfl) ?_
    exact W.vret hx hb hr (fun t ht _ => ⟨rfl, (Option.some.inj hf).symm, ht⟩) (fun q hq => absurd hq List.not_mem_nil) dX4_requireThere_17
  · have hf := ie hf c2
    obtain ⟨sa, hsa⟩ := hT.2.2.1 (205, "the bond is gone") (by decide +kernel)
    exact vx_throwS (names := ["java/lang/RuntimeException", "java/lang/Exception"]) (A := (fun _ => False)) hx hb hl0 hown (by decide) (by decide) (hts (.classLink RX4 73 "java/lang/IllegalStateException") (by decide +kernel)) (hts (.initialized "java/lang/IllegalStateException") (by decide +kernel)) hsa (vx_hat (fun w hw => hts w (atX4_requireThere_77 w hw)) thr_ng77 (fun w hw => va_any (thr_ot w hw) (hT.2.2.2 w hw))) (by decide +kernel) hT.1 hT.2.1 va_S.rf (hl.1.trans hml.symm) dX4_requireThere_7 dX4_requireThere_10 dX4_requireThere_11 dX4_requireThere_13 dX4_requireThere_16 (fun x h => (hte x h).elim) (Nat.le_of_ble_eq_true rfl) (Nat.le_of_ble_eq_true rfl) (Nat.le_of_ble_eq_true rfl) (Nat.le_of_ble_eq_true rfl) hlocks (fun t _ h1 h2 => ⟨(Option.some.inj hf).symm, h1, fun q h3 _ => h2 q h3⟩) (fun z hz => absurd hz List.not_mem_nil) (Nat.le_of_ble_eq_true rfl) (Nat.le_of_ble_eq_true rfl)
theorem atX4_requireYield_48 : ∀ w ∈ (vx_atS RX4 48 "java/lang/IllegalArgumentException" ["java/lang/RuntimeException", "java/lang/Exception"]).filter goodWord, w ∈ wsX4_requireYield := by decide +kernel
set_option maxHeartbeats 4000000 in
set_option maxRecDepth 100000 in
theorem m_X4_requireYield (l : Launch) (D : va_G) (cI cJ cO : ClassId) (ah : Nat) (a0 : Int32) (r : Unit ⊕ String) (hl0 : l.stackTraces = false) (hf : f_X4_requireYield a0 = some r) : vx_Met l yX4_requireYield wsX4_requireYield ({ frames := 6, cells := 1, slots := 6, locals := 82 }) (va_Pc [.int a0] (pT (pw D (ty3 cI cJ cO) (some ah) []))) (QTv r) (XT r) 1 6 (fun _ => False) := by
  refine vx_ofW (cc := cX4_requireYield) (maxL := 1) (ret := none) (by decide) rfl ?_
  intro p e s m args below meth c s₁ Bd hml hte hv
  obtain ⟨rfl, ⟨hZ, hP, hK⟩, hT⟩ := hv
  have hx := Bd.exec
  have hb := Bd.bytes
  have hr := Bd.returns
  have hts := atoms_spec (ws := wsX4_requireYield) Bd.pre
  have hown : s.vm.findClass RX4 = some m.cls := findClass_of_methodNamed Bd.named
  have hlocks := Bd.notSynchronized
  have hl := lv_entry ([.int a0]) (n := 1) (Nat.le_of_ble_eq_true rfl)
  rw [lg_entry_eq]
  generalize (lg_sl ([.int a0]) ++ List.replicate (1 - (lg_sl ([.int a0])).length) Slot.unset).toArray = ls at hl ⊢
  have hl : lv_has ls 1 [(0, .int a0)] := hl
  unfold f_X4_requireYield at hf
  refine lv_iload_n hx hb dX4_requireYield_0 rfl (lv_at hl 0 rfl) ?_
  refine lv_if_lt (tgt := 11) hx hb dX4_requireYield_1 (by decide) (fun c1 => ?_) (fun c1 => ?_)
  · have hf := it hf c1
    obtain ⟨sa, hsa⟩ := hT.2.2.1 (229, "rate is not 0 to 5000") (by decide +kernel)
    exact vx_throwS (names := ["java/lang/RuntimeException", "java/lang/Exception"]) (A := (fun _ => False)) hx hb hl0 hown (by decide) (by decide) (hts (.classLink RX4 44 "java/lang/IllegalArgumentException") (by decide +kernel)) (hts (.initialized "java/lang/IllegalArgumentException") (by decide +kernel)) hsa (vx_hat (fun w hw => hts w (atX4_requireYield_48 w hw)) thr_ng48 (fun w hw => va_any (thr_ot w hw) (hT.2.2.2 w hw))) (by decide +kernel) hT.1 hT.2.1 va_S.rf (hl.1.trans hml.symm) dX4_requireYield_11 dX4_requireYield_14 dX4_requireYield_15 dX4_requireYield_17 dX4_requireYield_20 (fun x h => (hte x h).elim) (Nat.le_of_ble_eq_true rfl) (Nat.le_of_ble_eq_true rfl) (Nat.le_of_ble_eq_true rfl) (Nat.le_of_ble_eq_true rfl) hlocks (fun t _ h1 h2 => ⟨(Option.some.inj hf).symm, h1, fun q h3 _ => h2 q h3⟩) (fun z hz => absurd hz List.not_mem_nil) (Nat.le_of_ble_eq_true rfl) (Nat.le_of_ble_eq_true rfl)
  · have hf := ie hf c1
    refine lv_iload_n hx hb dX4_requireYield_4 rfl (lv_at hl 0 rfl) ?_
    refine lv_sipush (v := 5000) hx hb dX4_requireYield_5 (by decide) ?_
    refine lv_icmp_le (tgt := 21) hx hb dX4_requireYield_8 (by decide) (fun c2 => ?_) (fun c2 => ?_)
    · have hf := it hf c2
      refine vx_ret ?_
      refine W.widen (k := 1) (n := 6) (Nat.le_of_ble_eq_true rfl) (Nat.le_of_ble_eq_true rfl) ?_
      exact W.vret hx hb hr (fun t ht _ => ⟨rfl, (Option.some.inj hf).symm, ht⟩) (fun q hq => absurd hq List.not_mem_nil) dX4_requireYield_21
    · have hf := ie hf c2
      obtain ⟨sa, hsa⟩ := hT.2.2.1 (229, "rate is not 0 to 5000") (by decide +kernel)
      exact vx_throwS (names := ["java/lang/RuntimeException", "java/lang/Exception"]) (A := (fun _ => False)) hx hb hl0 hown (by decide) (by decide) (hts (.classLink RX4 44 "java/lang/IllegalArgumentException") (by decide +kernel)) (hts (.initialized "java/lang/IllegalArgumentException") (by decide +kernel)) hsa (vx_hat (fun w hw => hts w (atX4_requireYield_48 w hw)) thr_ng48 (fun w hw => va_any (thr_ot w hw) (hT.2.2.2 w hw))) (by decide +kernel) hT.1 hT.2.1 va_S.rf (hl.1.trans hml.symm) dX4_requireYield_11 dX4_requireYield_14 dX4_requireYield_15 dX4_requireYield_17 dX4_requireYield_20 (fun x h => (hte x h).elim) (Nat.le_of_ble_eq_true rfl) (Nat.le_of_ble_eq_true rfl) (Nat.le_of_ble_eq_true rfl) (Nat.le_of_ble_eq_true rfl) hlocks (fun t _ h1 h2 => ⟨(Option.some.inj hf).symm, h1, fun q h3 _ => h2 q h3⟩) (fun z hz => absurd hz List.not_mem_nil) (Nat.le_of_ble_eq_true rfl) (Nat.le_of_ble_eq_true rfl)
theorem atX4_requirePrice_48 : ∀ w ∈ (vx_atS RX4 48 "java/lang/IllegalArgumentException" ["java/lang/RuntimeException", "java/lang/Exception"]).filter goodWord, w ∈ wsX4_requirePrice := by decide +kernel
set_option maxHeartbeats 4000000 in
set_option maxRecDepth 100000 in
theorem m_X4_requirePrice (l : Launch) (D : va_G) (cI cJ cO : ClassId) (ah : Nat) (a0 : Int32) (r : Unit ⊕ String) (hl0 : l.stackTraces = false) (hf : f_X4_requirePrice a0 = some r) : vx_Met l yX4_requirePrice wsX4_requirePrice ({ frames := 6, cells := 1, slots := 6, locals := 82 }) (va_Pc [.int a0] (pT (pw D (ty3 cI cJ cO) (some ah) []))) (QTv r) (XT r) 1 6 (fun _ => False) := by
  refine vx_ofW (cc := cX4_requirePrice) (maxL := 1) (ret := none) (by decide) rfl ?_
  intro p e s m args below meth c s₁ Bd hml hte hv
  obtain ⟨rfl, ⟨hZ, hP, hK⟩, hT⟩ := hv
  have hx := Bd.exec
  have hb := Bd.bytes
  have hr := Bd.returns
  have hts := atoms_spec (ws := wsX4_requirePrice) Bd.pre
  have hown : s.vm.findClass RX4 = some m.cls := findClass_of_methodNamed Bd.named
  have hlocks := Bd.notSynchronized
  have hl := lv_entry ([.int a0]) (n := 1) (Nat.le_of_ble_eq_true rfl)
  rw [lg_entry_eq]
  generalize (lg_sl ([.int a0]) ++ List.replicate (1 - (lg_sl ([.int a0])).length) Slot.unset).toArray = ls at hl ⊢
  have hl : lv_has ls 1 [(0, .int a0)] := hl
  unfold f_X4_requirePrice at hf
  refine lv_iload_n hx hb dX4_requirePrice_0 rfl (lv_at hl 0 rfl) ?_
  refine lv_iconst (v := 1) hx hb dX4_requirePrice_1 (by decide) ?_
  refine lv_icmp_lt (tgt := 12) hx hb dX4_requirePrice_2 (by decide) (fun c1 => ?_) (fun c1 => ?_)
  · have hf := it hf c1
    obtain ⟨sa, hsa⟩ := hT.2.2.1 (231, "price is not 1 to 30000") (by decide +kernel)
    exact vx_throwS (names := ["java/lang/RuntimeException", "java/lang/Exception"]) (A := (fun _ => False)) hx hb hl0 hown (by decide) (by decide) (hts (.classLink RX4 44 "java/lang/IllegalArgumentException") (by decide +kernel)) (hts (.initialized "java/lang/IllegalArgumentException") (by decide +kernel)) hsa (vx_hat (fun w hw => hts w (atX4_requirePrice_48 w hw)) thr_ng48 (fun w hw => va_any (thr_ot w hw) (hT.2.2.2 w hw))) (by decide +kernel) hT.1 hT.2.1 va_S.rf (hl.1.trans hml.symm) dX4_requirePrice_12 dX4_requirePrice_15 dX4_requirePrice_16 dX4_requirePrice_18 dX4_requirePrice_21 (fun x h => (hte x h).elim) (Nat.le_of_ble_eq_true rfl) (Nat.le_of_ble_eq_true rfl) (Nat.le_of_ble_eq_true rfl) (Nat.le_of_ble_eq_true rfl) hlocks (fun t _ h1 h2 => ⟨(Option.some.inj hf).symm, h1, fun q h3 _ => h2 q h3⟩) (fun z hz => absurd hz List.not_mem_nil) (Nat.le_of_ble_eq_true rfl) (Nat.le_of_ble_eq_true rfl)
  · have hf := ie hf c1
    refine lv_iload_n hx hb dX4_requirePrice_5 rfl (lv_at hl 0 rfl) ?_
    refine lv_sipush (v := 30000) hx hb dX4_requirePrice_6 (by decide) ?_
    refine lv_icmp_le (tgt := 22) hx hb dX4_requirePrice_9 (by decide) (fun c2 => ?_) (fun c2 => ?_)
    · have hf := it hf c2
      refine vx_ret ?_
      refine W.widen (k := 1) (n := 6) (Nat.le_of_ble_eq_true rfl) (Nat.le_of_ble_eq_true rfl) ?_
      exact W.vret hx hb hr (fun t ht _ => ⟨rfl, (Option.some.inj hf).symm, ht⟩) (fun q hq => absurd hq List.not_mem_nil) dX4_requirePrice_22
    · have hf := ie hf c2
      obtain ⟨sa, hsa⟩ := hT.2.2.1 (231, "price is not 1 to 30000") (by decide +kernel)
      exact vx_throwS (names := ["java/lang/RuntimeException", "java/lang/Exception"]) (A := (fun _ => False)) hx hb hl0 hown (by decide) (by decide) (hts (.classLink RX4 44 "java/lang/IllegalArgumentException") (by decide +kernel)) (hts (.initialized "java/lang/IllegalArgumentException") (by decide +kernel)) hsa (vx_hat (fun w hw => hts w (atX4_requirePrice_48 w hw)) thr_ng48 (fun w hw => va_any (thr_ot w hw) (hT.2.2.2 w hw))) (by decide +kernel) hT.1 hT.2.1 va_S.rf (hl.1.trans hml.symm) dX4_requirePrice_12 dX4_requirePrice_15 dX4_requirePrice_16 dX4_requirePrice_18 dX4_requirePrice_21 (fun x h => (hte x h).elim) (Nat.le_of_ble_eq_true rfl) (Nat.le_of_ble_eq_true rfl) (Nat.le_of_ble_eq_true rfl) (Nat.le_of_ble_eq_true rfl) hlocks (fun t _ h1 h2 => ⟨(Option.some.inj hf).symm, h1, fun q h3 _ => h2 q h3⟩) (fun z hz => absurd hz List.not_mem_nil) (Nat.le_of_ble_eq_true rfl) (Nat.le_of_ble_eq_true rfl)
theorem atX4_requirePieces_48 : ∀ w ∈ (vx_atS RX4 48 "java/lang/IllegalArgumentException" ["java/lang/RuntimeException", "java/lang/Exception"]).filter goodWord, w ∈ wsX4_requirePieces := by decide +kernel
set_option maxHeartbeats 4000000 in
set_option maxRecDepth 100000 in
theorem m_X4_requirePieces (l : Launch) (D : va_G) (cI cJ cO : ClassId) (ah : Nat) (a0 : Int32) (r : Unit ⊕ String) (hl0 : l.stackTraces = false) (hf : f_X4_requirePieces a0 = some r) : vx_Met l yX4_requirePieces wsX4_requirePieces ({ frames := 6, cells := 1, slots := 6, locals := 82 }) (va_Pc [.int a0] (pT (pw D (ty3 cI cJ cO) (some ah) []))) (QTv r) (XT r) 1 6 (fun _ => False) := by
  refine vx_ofW (cc := cX4_requirePieces) (maxL := 1) (ret := none) (by decide) rfl ?_
  intro p e s m args below meth c s₁ Bd hml hte hv
  obtain ⟨rfl, ⟨hZ, hP, hK⟩, hT⟩ := hv
  have hx := Bd.exec
  have hb := Bd.bytes
  have hr := Bd.returns
  have hts := atoms_spec (ws := wsX4_requirePieces) Bd.pre
  have hown : s.vm.findClass RX4 = some m.cls := findClass_of_methodNamed Bd.named
  have hlocks := Bd.notSynchronized
  have hl := lv_entry ([.int a0]) (n := 1) (Nat.le_of_ble_eq_true rfl)
  rw [lg_entry_eq]
  generalize (lg_sl ([.int a0]) ++ List.replicate (1 - (lg_sl ([.int a0])).length) Slot.unset).toArray = ls at hl ⊢
  have hl : lv_has ls 1 [(0, .int a0)] := hl
  unfold f_X4_requirePieces at hf
  refine lv_iload_n hx hb dX4_requirePieces_0 rfl (lv_at hl 0 rfl) ?_
  refine lv_iconst (v := 1) hx hb dX4_requirePieces_1 (by decide) ?_
  refine lv_icmp_lt (tgt := 12) hx hb dX4_requirePieces_2 (by decide) (fun c1 => ?_) (fun c1 => ?_)
  · have hf := it hf c1
    obtain ⟨sa, hsa⟩ := hT.2.2.1 (310, "pieces is not 1 to 1000") (by decide +kernel)
    exact vx_throwSW (names := ["java/lang/RuntimeException", "java/lang/Exception"]) (A := (fun _ => False)) hx hb hl0 hown (by decide) (by decide) (hts (.classLink RX4 44 "java/lang/IllegalArgumentException") (by decide +kernel)) (hts (.initialized "java/lang/IllegalArgumentException") (by decide +kernel)) hsa (vx_hat (fun w hw => hts w (atX4_requirePieces_48 w hw)) thr_ng48 (fun w hw => va_any (thr_ot w hw) (hT.2.2.2 w hw))) (by decide +kernel) hT.1 hT.2.1 va_S.rf (hl.1.trans hml.symm) dX4_requirePieces_12 dX4_requirePieces_15 dX4_requirePieces_16 dX4_requirePieces_19 dX4_requirePieces_22 (fun x h => (hte x h).elim) (Nat.le_of_ble_eq_true rfl) (Nat.le_of_ble_eq_true rfl) (Nat.le_of_ble_eq_true rfl) (Nat.le_of_ble_eq_true rfl) hlocks (fun t _ h1 h2 => ⟨(Option.some.inj hf).symm, h1, fun q h3 _ => h2 q h3⟩) (fun z hz => absurd hz List.not_mem_nil) (Nat.le_of_ble_eq_true rfl) (Nat.le_of_ble_eq_true rfl)
  · have hf := ie hf c1
    refine lv_iload_n hx hb dX4_requirePieces_5 rfl (lv_at hl 0 rfl) ?_
    refine lv_sipush (v := 1000) hx hb dX4_requirePieces_6 (by decide) ?_
    refine lv_icmp_le (tgt := 23) hx hb dX4_requirePieces_9 (by decide) (fun c2 => ?_) (fun c2 => ?_)
    · have hf := it hf c2
      refine vx_ret ?_
      refine W.widen (k := 1) (n := 6) (Nat.le_of_ble_eq_true rfl) (Nat.le_of_ble_eq_true rfl) ?_
      exact W.vret hx hb hr (fun t ht _ => ⟨rfl, (Option.some.inj hf).symm, ht⟩) (fun q hq => absurd hq List.not_mem_nil) dX4_requirePieces_23
    · have hf := ie hf c2
      obtain ⟨sa, hsa⟩ := hT.2.2.1 (310, "pieces is not 1 to 1000") (by decide +kernel)
      exact vx_throwSW (names := ["java/lang/RuntimeException", "java/lang/Exception"]) (A := (fun _ => False)) hx hb hl0 hown (by decide) (by decide) (hts (.classLink RX4 44 "java/lang/IllegalArgumentException") (by decide +kernel)) (hts (.initialized "java/lang/IllegalArgumentException") (by decide +kernel)) hsa (vx_hat (fun w hw => hts w (atX4_requirePieces_48 w hw)) thr_ng48 (fun w hw => va_any (thr_ot w hw) (hT.2.2.2 w hw))) (by decide +kernel) hT.1 hT.2.1 va_S.rf (hl.1.trans hml.symm) dX4_requirePieces_12 dX4_requirePieces_15 dX4_requirePieces_16 dX4_requirePieces_19 dX4_requirePieces_22 (fun x h => (hte x h).elim) (Nat.le_of_ble_eq_true rfl) (Nat.le_of_ble_eq_true rfl) (Nat.le_of_ble_eq_true rfl) (Nat.le_of_ble_eq_true rfl) hlocks (fun t _ h1 h2 => ⟨(Option.some.inj hf).symm, h1, fun q h3 _ => h2 q h3⟩) (fun z hz => absurd hz List.not_mem_nil) (Nat.le_of_ble_eq_true rfl) (Nat.le_of_ble_eq_true rfl)
theorem atX4_requireYear_48 : ∀ w ∈ (vx_atS RX4 48 "java/lang/IllegalArgumentException" ["java/lang/RuntimeException", "java/lang/Exception"]).filter goodWord, w ∈ wsX4_requireYear := by decide +kernel
set_option maxHeartbeats 4000000 in
set_option maxRecDepth 100000 in
theorem m_X4_requireYear (l : Launch) (D : va_G) (cI cJ cO : ClassId) (ah : Nat) (a0 : Int32) (r : Unit ⊕ String) (hl0 : l.stackTraces = false) (hf : f_X4_requireYear a0 = some r) : vx_Met l yX4_requireYear wsX4_requireYear ({ frames := 6, cells := 1, slots := 6, locals := 82 }) (va_Pc [.int a0] (pT (pw D (ty3 cI cJ cO) (some ah) []))) (QTv r) (XT r) 1 6 (fun _ => False) := by
  refine vx_ofW (cc := cX4_requireYear) (maxL := 1) (ret := none) (by decide) rfl ?_
  intro p e s m args below meth c s₁ Bd hml hte hv
  obtain ⟨rfl, ⟨hZ, hP, hK⟩, hT⟩ := hv
  have hx := Bd.exec
  have hb := Bd.bytes
  have hr := Bd.returns
  have hts := atoms_spec (ws := wsX4_requireYear) Bd.pre
  have hown : s.vm.findClass RX4 = some m.cls := findClass_of_methodNamed Bd.named
  have hlocks := Bd.notSynchronized
  have hl := lv_entry ([.int a0]) (n := 1) (Nat.le_of_ble_eq_true rfl)
  rw [lg_entry_eq]
  generalize (lg_sl ([.int a0]) ++ List.replicate (1 - (lg_sl ([.int a0])).length) Slot.unset).toArray = ls at hl ⊢
  have hl : lv_has ls 1 [(0, .int a0)] := hl
  unfold f_X4_requireYear at hf
  refine lv_iload_n hx hb dX4_requireYear_0 rfl (lv_at hl 0 rfl) ?_
  refine lv_sipush (v := 2016) hx hb dX4_requireYear_1 (by decide) ?_
  refine lv_icmp_lt (tgt := 14) hx hb dX4_requireYear_4 (by decide) (fun c1 => ?_) (fun c1 => ?_)
  · have hf := it hf c1
    obtain ⟨sa, hsa⟩ := hT.2.2.1 (312, "the year is not 2016 to 2066") (by decide +kernel)
    exact vx_throwSW (names := ["java/lang/RuntimeException", "java/lang/Exception"]) (A := (fun _ => False)) hx hb hl0 hown (by decide) (by decide) (hts (.classLink RX4 44 "java/lang/IllegalArgumentException") (by decide +kernel)) (hts (.initialized "java/lang/IllegalArgumentException") (by decide +kernel)) hsa (vx_hat (fun w hw => hts w (atX4_requireYear_48 w hw)) thr_ng48 (fun w hw => va_any (thr_ot w hw) (hT.2.2.2 w hw))) (by decide +kernel) hT.1 hT.2.1 va_S.rf (hl.1.trans hml.symm) dX4_requireYear_14 dX4_requireYear_17 dX4_requireYear_18 dX4_requireYear_21 dX4_requireYear_24 (fun x h => (hte x h).elim) (Nat.le_of_ble_eq_true rfl) (Nat.le_of_ble_eq_true rfl) (Nat.le_of_ble_eq_true rfl) (Nat.le_of_ble_eq_true rfl) hlocks (fun t _ h1 h2 => ⟨(Option.some.inj hf).symm, h1, fun q h3 _ => h2 q h3⟩) (fun z hz => absurd hz List.not_mem_nil) (Nat.le_of_ble_eq_true rfl) (Nat.le_of_ble_eq_true rfl)
  · have hf := ie hf c1
    refine lv_iload_n hx hb dX4_requireYear_7 rfl (lv_at hl 0 rfl) ?_
    refine lv_sipush (v := 2066) hx hb dX4_requireYear_8 (by decide) ?_
    refine lv_icmp_le (tgt := 25) hx hb dX4_requireYear_11 (by decide) (fun c2 => ?_) (fun c2 => ?_)
    · have hf := it hf c2
      refine vx_ret ?_
      refine W.widen (k := 1) (n := 6) (Nat.le_of_ble_eq_true rfl) (Nat.le_of_ble_eq_true rfl) ?_
      exact W.vret hx hb hr (fun t ht _ => ⟨rfl, (Option.some.inj hf).symm, ht⟩) (fun q hq => absurd hq List.not_mem_nil) dX4_requireYear_25
    · have hf := ie hf c2
      obtain ⟨sa, hsa⟩ := hT.2.2.1 (312, "the year is not 2016 to 2066") (by decide +kernel)
      exact vx_throwSW (names := ["java/lang/RuntimeException", "java/lang/Exception"]) (A := (fun _ => False)) hx hb hl0 hown (by decide) (by decide) (hts (.classLink RX4 44 "java/lang/IllegalArgumentException") (by decide +kernel)) (hts (.initialized "java/lang/IllegalArgumentException") (by decide +kernel)) hsa (vx_hat (fun w hw => hts w (atX4_requireYear_48 w hw)) thr_ng48 (fun w hw => va_any (thr_ot w hw) (hT.2.2.2 w hw))) (by decide +kernel) hT.1 hT.2.1 va_S.rf (hl.1.trans hml.symm) dX4_requireYear_14 dX4_requireYear_17 dX4_requireYear_18 dX4_requireYear_21 dX4_requireYear_24 (fun x h => (hte x h).elim) (Nat.le_of_ble_eq_true rfl) (Nat.le_of_ble_eq_true rfl) (Nat.le_of_ble_eq_true rfl) (Nat.le_of_ble_eq_true rfl) hlocks (fun t _ h1 h2 => ⟨(Option.some.inj hf).symm, h1, fun q h3 _ => h2 q h3⟩) (fun z hz => absurd hz List.not_mem_nil) (Nat.le_of_ble_eq_true rfl) (Nat.le_of_ble_eq_true rfl)
theorem inX4_requireLife_X4 : ∀ w ∈ wsX40, w ∈ wsX4_requireLife := by decide +kernel
theorem atX4_requireLife_48 : ∀ w ∈ (vx_atS RX4 48 "java/lang/IllegalArgumentException" ["java/lang/RuntimeException", "java/lang/Exception"]).filter goodWord, w ∈ wsX4_requireLife := by decide +kernel
set_option maxHeartbeats 4000000 in
set_option maxRecDepth 100000 in
theorem m_X4_requireLife (l : Launch) (D : va_G) (cI cJ cO : ClassId) (ah : Nat) (qk : Nat) (qh : Nat) (qb : Nat) (ql : Nat) (ab : Nat → Nat) (K : Nat → Int32) (kc : Int64) (hol : Nat → Int32) (LG : Nat → Int64) (nb : Nat) (a0 : Int32) (a1 : Int32) (r : Unit ⊕ String) (hl0 : l.stackTraces = false) (hf : f_X4_requireLife K a0 a1 = some r) : vx_Met l yX4_requireLife wsX4_requireLife ({ frames := 7, cells := 3, slots := 18, locals := 102 }) (va_Pc [.ref qk, .int a0, .int a1] (pT (pw D (ty3 cI cJ cO) (some ah) [eK qk qh qb ql K kc, eG cI qh hol, eF cO qb nb ab, eL ql LG]))) (QTv r) (XT r) 3 18 (fun _ => False) := by
  refine vx_ofW (cc := cX4_requireLife) (maxL := 3) (ret := none) (by decide) rfl ?_
  intro p e s m args below meth c s₁ Bd hml hte hv
  obtain ⟨rfl, ⟨hZ, hP, hK⟩, hT⟩ := hv
  have hx := Bd.exec
  have hb := Bd.bytes
  have hr := Bd.returns
  have hts := atoms_spec (ws := wsX4_requireLife) Bd.pre
  have hown : s.vm.findClass RX4 = some m.cls := findClass_of_methodNamed Bd.named
  have hlocks := Bd.notSynchronized
  have hl := lv_entry ([.ref qk, .int a0, .int a1]) (n := 3) (Nat.le_of_ble_eq_true rfl)
  rw [lg_entry_eq]
  generalize (lg_sl ([.ref qk, .int a0, .int a1]) ++ List.replicate (3 - (lg_sl ([.ref qk, .int a0, .int a1])).length) Slot.unset).toArray = ls at hl ⊢
  have hl : lv_has ls 3 [(0, .ref qk), (1, .int a0), (2, .int a1)] := hl
  unfold f_X4_requireLife at hf
  refine lv_iload_n hx hb dX4_requireLife_0 rfl (lv_at hl 1 rfl) ?_
  obtain ⟨v1, hv1, hf⟩ := exs hf
  refine xSv (vx_runS (As := [.int a0]) (rest := []) ⟨hx, hb, hml, hown, hts⟩ (m_X4_requireDate l D cI cJ cO ah a0 v1 hl0 hv1) (va_cwS 1 hts gX4_requireLife_X4_requireDate rfl rfl rfl (by decide +kernel) ⟨(Nat.le_of_ble_eq_true rfl), (Nat.le_of_ble_eq_true rfl)⟩) ⟨pT_blind, fun U hU hW => ⟨rfl, pw_at hZ va_S.rf hP hK hU hW (Or.inr rfl) [] rfl, pX_at hT va_S.rf hU hW⟩⟩ rfl rfl hl.1 rfl (lv_room (Nat.le_of_ble_eq_true rfl)) dX4_requireLife_1 ⟨(Nat.le_of_ble_eq_true rfl), (Nat.le_of_ble_eq_true rfl)⟩) (fun E ce q9 H1 locs1 hE hz9 hk9 hS9 hc9 hv9 hl9 => vx_widen (k := 3) (n := 18) (Nat.le_of_ble_eq_true rfl) (Nat.le_of_ble_eq_true rfl) (vx_out (fun x h => (hte x h).elim) hlocks hc9 hv9 hl9 (fun t ht _ => ⟨ex_r hf hE, by rw [ht]; exact hz9, fun q h3 _ => by rw [ht]; exact hk9 q h3⟩) (fun z hz => absurd hz (by rw [hS9]; exact List.not_mem_nil)) (Nat.le_refl _) (Nat.le_refl _))) (fun v2 ev2 => ?_)
  have hf := ex_l hf ev2
  refine lv_iload_n hx hb dX4_requireLife_4 rfl (lv_at hl 2 rfl) ?_
  obtain ⟨v3, hv3, hf⟩ := exs hf
  refine xSv (vx_runS (As := [.int a1]) (rest := []) ⟨hx, hb, hml, hown, hts⟩ (m_X4_requireDate l D cI cJ cO ah a1 v3 hl0 hv3) (va_cwS 1 hts gX4_requireLife_X4_requireDate rfl rfl rfl (by decide +kernel) ⟨(Nat.le_of_ble_eq_true rfl), (Nat.le_of_ble_eq_true rfl)⟩) ⟨pT_blind, fun U hU hW => ⟨rfl, pw_at hZ va_S.rf hP hK hU hW (Or.inr rfl) [] rfl, pX_at hT va_S.rf hU hW⟩⟩ rfl rfl hl.1 rfl (lv_room (Nat.le_of_ble_eq_true rfl)) dX4_requireLife_5 ⟨(Nat.le_of_ble_eq_true rfl), (Nat.le_of_ble_eq_true rfl)⟩) (fun E ce q9 H1 locs1 hE hz9 hk9 hS9 hc9 hv9 hl9 => vx_widen (k := 3) (n := 18) (Nat.le_of_ble_eq_true rfl) (Nat.le_of_ble_eq_true rfl) (vx_out (fun x h => (hte x h).elim) hlocks hc9 hv9 hl9 (fun t ht _ => ⟨ex_r hf hE, by rw [ht]; exact hz9, fun q h3 _ => by rw [ht]; exact hk9 q h3⟩) (fun z hz => absurd hz (by rw [hS9]; exact List.not_mem_nil)) (Nat.le_refl _) (Nat.le_refl _))) (fun v4 ev4 => ?_)
  have hf := ex_l hf ev4
  refine lv_iload_n hx hb dX4_requireLife_8 rfl (lv_at hl 2 rfl) ?_
  refine lv_ldc hx hb hown (hts (.constant RX4 78 (20661101)) (by decide +kernel)) dX4_requireLife_9 ?_
  refine lv_icmp_le (tgt := 24) hx hb dX4_requireLife_11 (by decide) (fun c5 => ?_) (fun c5 => ?_)
  · have hf := it hf c5
    refine lv_iload_n hx hb dX4_requireLife_24 rfl (lv_at hl 2 rfl) ?_
    refine lv_iload_n hx hb dX4_requireLife_25 rfl (lv_at hl 1 rfl) ?_
    refine lv_icmp_le (tgt := 37) hx hb dX4_requireLife_26 (by decide) (fun c6 => ?_) (fun c6 => ?_)
    · have hf := it hf c6
      obtain ⟨sa, hsa⟩ := hT.2.2.1 (193, "the end is not later than the issue date and today") (by decide +kernel)
      exact vx_throwS (names := ["java/lang/RuntimeException", "java/lang/Exception"]) (A := (fun _ => False)) hx hb hl0 hown (by decide) (by decide) (hts (.classLink RX4 44 "java/lang/IllegalArgumentException") (by decide +kernel)) (hts (.initialized "java/lang/IllegalArgumentException") (by decide +kernel)) hsa (vx_hat (fun w hw => hts w (atX4_requireLife_48 w hw)) thr_ng48 (fun w hw => va_any (thr_ot w hw) (hT.2.2.2 w hw))) (by decide +kernel) hT.1 hT.2.1 va_S.rf (hl.1.trans hml.symm) dX4_requireLife_37 dX4_requireLife_40 dX4_requireLife_41 dX4_requireLife_43 dX4_requireLife_46 (fun x h => (hte x h).elim) (Nat.le_of_ble_eq_true rfl) (Nat.le_of_ble_eq_true rfl) (Nat.le_of_ble_eq_true rfl) (Nat.le_of_ble_eq_true rfl) hlocks (fun t _ h1 h2 => ⟨(Option.some.inj hf).symm, h1, fun q h3 _ => h2 q h3⟩) (fun z hz => absurd hz List.not_mem_nil) (Nat.le_of_ble_eq_true rfl) (Nat.le_of_ble_eq_true rfl)
    · have hf := ie hf c6
      refine lv_iload_n hx hb dX4_requireLife_29 rfl (lv_at hl 2 rfl) ?_
      refine lv_aload_n hx hb dX4_requireLife_30 rfl (lv_at hl 0 rfl) ?_
      refine va_get (D := D) (ci := 3) (v := .int (K 5)) (C := RX4) (T := TX4) (N := 8) hx hb hts inX4_requireLife_X4 hown hK hP 0 rfl rfl 5 (by decide) (hts (.fieldLink RX4 27 "BondDesk" "today" "I") (by decide +kernel)) (fun _ h9 => h9) rfl dX4_requireLife_31 ?_
      refine lv_icmp_gt (tgt := 47) hx hb dX4_requireLife_34 (by decide) (fun c7 => ?_) (fun c7 => ?_)
      · have hf := it hf c7
        refine vx_ret ?_
        refine W.widen (k := 3) (n := 18) (Nat.le_of_ble_eq_true rfl) (Nat.le_of_ble_eq_true rfl) ?_
        exact W.vret hx hb hr (fun t ht _ => ⟨rfl, (Option.some.inj hf).symm, ht⟩) (fun q hq => absurd hq List.not_mem_nil) dX4_requireLife_47
      · have hf := ie hf c7
        obtain ⟨sa, hsa⟩ := hT.2.2.1 (193, "the end is not later than the issue date and today") (by decide +kernel)
        exact vx_throwS (names := ["java/lang/RuntimeException", "java/lang/Exception"]) (A := (fun _ => False)) hx hb hl0 hown (by decide) (by decide) (hts (.classLink RX4 44 "java/lang/IllegalArgumentException") (by decide +kernel)) (hts (.initialized "java/lang/IllegalArgumentException") (by decide +kernel)) hsa (vx_hat (fun w hw => hts w (atX4_requireLife_48 w hw)) thr_ng48 (fun w hw => va_any (thr_ot w hw) (hT.2.2.2 w hw))) (by decide +kernel) hT.1 hT.2.1 va_S.rf (hl.1.trans hml.symm) dX4_requireLife_37 dX4_requireLife_40 dX4_requireLife_41 dX4_requireLife_43 dX4_requireLife_46 (fun x h => (hte x h).elim) (Nat.le_of_ble_eq_true rfl) (Nat.le_of_ble_eq_true rfl) (Nat.le_of_ble_eq_true rfl) (Nat.le_of_ble_eq_true rfl) hlocks (fun t _ h1 h2 => ⟨(Option.some.inj hf).symm, h1, fun q h3 _ => h2 q h3⟩) (fun z hz => absurd hz List.not_mem_nil) (Nat.le_of_ble_eq_true rfl) (Nat.le_of_ble_eq_true rfl)
  · have hf := ie hf c5
    obtain ⟨sa, hsa⟩ := hT.2.2.1 (191, "the end is later than 20661101") (by decide +kernel)
    exact vx_throwS (names := ["java/lang/RuntimeException", "java/lang/Exception"]) (A := (fun _ => False)) hx hb hl0 hown (by decide) (by decide) (hts (.classLink RX4 44 "java/lang/IllegalArgumentException") (by decide +kernel)) (hts (.initialized "java/lang/IllegalArgumentException") (by decide +kernel)) hsa (vx_hat (fun w hw => hts w (atX4_requireLife_48 w hw)) thr_ng48 (fun w hw => va_any (thr_ot w hw) (hT.2.2.2 w hw))) (by decide +kernel) hT.1 hT.2.1 va_S.rf (hl.1.trans hml.symm) dX4_requireLife_14 dX4_requireLife_17 dX4_requireLife_18 dX4_requireLife_20 dX4_requireLife_23 (fun x h => (hte x h).elim) (Nat.le_of_ble_eq_true rfl) (Nat.le_of_ble_eq_true rfl) (Nat.le_of_ble_eq_true rfl) (Nat.le_of_ble_eq_true rfl) hlocks (fun t _ h1 h2 => ⟨(Option.some.inj hf).symm, h1, fun q h3 _ => h2 q h3⟩) (fun z hz => absurd hz List.not_mem_nil) (Nat.le_of_ble_eq_true rfl) (Nat.le_of_ble_eq_true rfl)
theorem inX4_requireWorkingDay_X4 : ∀ w ∈ wsX40, w ∈ wsX4_requireWorkingDay := by decide +kernel
theorem atX4_requireWorkingDay_77 : ∀ w ∈ (vx_atS RX4 77 "java/lang/IllegalStateException" ["java/lang/RuntimeException", "java/lang/Exception"]).filter goodWord, w ∈ wsX4_requireWorkingDay := by decide +kernel
set_option maxHeartbeats 4000000 in
set_option maxRecDepth 100000 in
theorem m_X4_requireWorkingDay (l : Launch) (D : va_G) (cI cJ cO : ClassId) (ah : Nat) (qk : Nat) (qh : Nat) (qb : Nat) (ql : Nat) (ab : Nat → Nat) (K : Nat → Int32) (kc : Int64) (hol : Nat → Int32) (LG : Nat → Int64) (nb : Nat) (N : Nat) (r : Unit ⊕ String) (hl0 : l.stackTraces = false) (hf : f_X4_requireWorkingDay N K hol = some r) : vx_Met l yX4_requireWorkingDay wsX4_requireWorkingDay ({ frames := 6, cells := 1, slots := 6, locals := 82 }) (va_Pc [.ref qk] (pT (pw D (ty3 cI cJ cO) (some ah) [eK qk qh qb ql K kc, eG cI qh hol, eF cO qb nb ab, eL ql LG]))) (QTv r) (XT r) 1 6 (fun _ => False) := by
  refine vx_ofW (cc := cX4_requireWorkingDay) (maxL := 1) (ret := none) (by decide) rfl ?_
  intro p e s m args below meth c s₁ Bd hml hte hv
  obtain ⟨rfl, ⟨hZ, hP, hK⟩, hT⟩ := hv
  have hx := Bd.exec
  have hb := Bd.bytes
  have hr := Bd.returns
  have hts := atoms_spec (ws := wsX4_requireWorkingDay) Bd.pre
  have hown : s.vm.findClass RX4 = some m.cls := findClass_of_methodNamed Bd.named
  have hlocks := Bd.notSynchronized
  have hl := lv_entry ([.ref qk]) (n := 1) (Nat.le_of_ble_eq_true rfl)
  rw [lg_entry_eq]
  generalize (lg_sl ([.ref qk]) ++ List.replicate (1 - (lg_sl ([.ref qk])).length) Slot.unset).toArray = ls at hl ⊢
  have hl : lv_has ls 1 [(0, .ref qk)] := hl
  unfold f_X4_requireWorkingDay at hf
  refine lv_aload_n hx hb dX4_requireWorkingDay_0 rfl (lv_at hl 0 rfl) ?_
  refine lv_aload_n hx hb dX4_requireWorkingDay_1 rfl (lv_at hl 0 rfl) ?_
  refine va_get (D := D) (ci := 3) (v := .int (K 5)) (C := RX4) (T := TX4) (N := 8) hx hb hts inX4_requireWorkingDay_X4 hown hK hP 0 rfl rfl 5 (by decide) (hts (.fieldLink RX4 27 "BondDesk" "today" "I") (by decide +kernel)) (fun _ h9 => h9) rfl dX4_requireWorkingDay_2 ?_
  obtain ⟨v1, hv1, hf⟩ := ob hf
  refine cSi (W.runS (As := [.int (K 5)]) (rest := [.ref qk]) ⟨hx, hb, hml, hown, hts⟩ (m_X1_dayNumber l D cI cJ cO ah (K 5) v1 hv1) (va_cwS 1 hts gX4_requireWorkingDay_X1_dayNumber rfl rfl rfl (by decide +kernel) ⟨(Nat.le_of_ble_eq_true rfl), (Nat.le_of_ble_eq_true rfl)⟩) ⟨pw_blind, fun U hU hW => ⟨rfl, pw_at hZ va_S.rf hP hK hU hW (Or.inr rfl) [] rfl⟩⟩ rfl rfl hl.1 rfl (lv_room (Nat.le_of_ble_eq_true rfl)) dX4_requireWorkingDay_5 ⟨(Nat.le_of_ble_eq_true rfl), (Nat.le_of_ble_eq_true rfl)⟩) ?_
  obtain ⟨v2, hv2, hf⟩ := ob hf
  refine cSz (W.runV (As := [.int v1]) (rest := []) ⟨hx, hb, hml, hown, hts⟩ (m_X4_isWorkingDay l D cI cJ cO ah qk qh qb ql ab K kc hol LG nb v1 N v2 hv2) (cwV 1 hts gX4_requireWorkingDay_X4_isWorkingDay rfl rfl rfl (by decide +kernel) ⟨(Nat.le_of_ble_eq_true rfl), (Nat.le_of_ble_eq_true rfl)⟩) ⟨pw_blind, va_recv hK hP (ci := 3) (q0 := 0) rfl rfl, fun U hU hW => ⟨rfl, pw_at hZ va_S.rf hP hK hU hW (Or.inr rfl) [0, 1, 2, 3] rfl⟩⟩ rfl rfl hl.1 rfl (lv_room (Nat.le_of_ble_eq_true rfl)) dX4_requireWorkingDay_8 ⟨(Nat.le_of_ble_eq_true rfl), (Nat.le_of_ble_eq_true rfl)⟩) (fun zv2 => ?_)
  refine lv_if_ne (tgt := 25) hx hb dX4_requireWorkingDay_11 (by decide) (fun c3 => ?_) (fun c3 => ?_)
  · have hf := ie hf c3
    refine vx_ret ?_
    refine W.widen (k := 1) (n := 6) (Nat.le_of_ble_eq_true rfl) (Nat.le_of_ble_eq_true rfl) ?_
    exact W.vret hx hb hr (fun t ht _ => ⟨rfl, (Option.some.inj hf).symm, ht⟩) (fun q hq => absurd hq List.not_mem_nil) dX4_requireWorkingDay_25
  · have hf := it hf c3
    obtain ⟨sa, hsa⟩ := hT.2.2.1 (314, "today is no working day") (by decide +kernel)
    exact vx_throwSW (names := ["java/lang/RuntimeException", "java/lang/Exception"]) (A := (fun _ => False)) hx hb hl0 hown (by decide) (by decide) (hts (.classLink RX4 73 "java/lang/IllegalStateException") (by decide +kernel)) (hts (.initialized "java/lang/IllegalStateException") (by decide +kernel)) hsa (vx_hat (fun w hw => hts w (atX4_requireWorkingDay_77 w hw)) thr_ng77 (fun w hw => va_any (thr_ot w hw) (hT.2.2.2 w hw))) (by decide +kernel) hT.1 hT.2.1 va_S.rf (hl.1.trans hml.symm) dX4_requireWorkingDay_14 dX4_requireWorkingDay_17 dX4_requireWorkingDay_18 dX4_requireWorkingDay_21 dX4_requireWorkingDay_24 (fun x h => (hte x h).elim) (Nat.le_of_ble_eq_true rfl) (Nat.le_of_ble_eq_true rfl) (Nat.le_of_ble_eq_true rfl) (Nat.le_of_ble_eq_true rfl) hlocks (fun t _ h1 h2 => ⟨(Option.some.inj hf).symm, h1, fun q h3 _ => h2 q h3⟩) (fun z hz => absurd hz List.not_mem_nil) (Nat.le_of_ble_eq_true rfl) (Nat.le_of_ble_eq_true rfl)
theorem inX4_bondNumbered_X4 : ∀ w ∈ wsX40, w ∈ wsX4_bondNumbered := by decide +kernel
theorem atX4_bondNumbered_170 : ∀ w ∈ (vx_atS RX4 170 "java/lang/IndexOutOfBoundsException" ["java/lang/RuntimeException", "java/lang/Exception"]).filter goodWord, w ∈ wsX4_bondNumbered := by decide +kernel
set_option maxHeartbeats 4000000 in
set_option maxRecDepth 100000 in
theorem m_X4_bondNumbered (l : Launch) (D : va_G) (cI cJ cO : ClassId) (ah : Nat) (qk : Nat) (qh : Nat) (qb : Nat) (ql : Nat) (ab : Nat → Nat) (K : Nat → Int32) (kc : Int64) (hol : Nat → Int32) (LG : Nat → Int64) (nb : Nat) (a0 : Int32) (r : Nat ⊕ String) (hl0 : l.stackTraces = false) (hf : f_X4_bondNumbered nb a0 = some r) : vx_Met l yX4_bondNumbered wsX4_bondNumbered ({ frames := 6, cells := 1, slots := 6, locals := 82 }) (va_Pc [.ref qk, .int a0] (pT (pw D (ty3 cI cJ cO) (some ah) [eK qk qh qb ql K kc, eG cI qh hol, eF cO qb nb ab, eL ql LG]))) (QTr ab r) (XT r) 1 6 (fun _ => False) := by
  refine vx_ofW (cc := cX4_bondNumbered) (maxL := 3) (ret := (some (.object "BondDesk$Bond"))) (by decide) rfl ?_
  intro p e s m args below meth c s₁ Bd hml hte hv
  obtain ⟨rfl, ⟨hZ, hP, hK⟩, hT⟩ := hv
  have hx := Bd.exec
  have hb := Bd.bytes
  have hr := Bd.returns
  have hts := atoms_spec (ws := wsX4_bondNumbered) Bd.pre
  have hown : s.vm.findClass RX4 = some m.cls := findClass_of_methodNamed Bd.named
  have hlocks := Bd.notSynchronized
  have hl := lv_entry ([.ref qk, .int a0]) (n := 3) (Nat.le_of_ble_eq_true rfl)
  rw [lg_entry_eq]
  generalize (lg_sl ([.ref qk, .int a0]) ++ List.replicate (3 - (lg_sl ([.ref qk, .int a0])).length) Slot.unset).toArray = ls at hl ⊢
  have hl : lv_has ls 3 [(0, .ref qk), (1, .int a0)] := hl
  unfold f_X4_bondNumbered at hf
  refine lv_iload_n hx hb dX4_bondNumbered_0 rfl (lv_at hl 1 rfl) ?_
  refine lv_if_lt (tgt := 22) hx hb dX4_bondNumbered_1 (by decide) (fun c1 => ?_) (fun c1 => ?_)
  · have hf := it hf c1
    refine lv_null hx hb dX4_bondNumbered_22 ?_
    refine lv_astore_nN (lv' := [(2, .null), (0, .ref qk), (1, .int a0)]) hx hb dX4_bondNumbered_23 rfl hl (by decide) rfl (fun ls hl => ?_)
    refine lv_aload_nN hx hb dX4_bondNumbered_24 rfl (lv_at hl 0 rfl) ?_
    refine lv_ifnonnullN hx hb dX4_bondNumbered_25 ?_
    obtain ⟨sa, hsa⟩ := hT.2.2.1 (207, "there is no such bond") (by decide +kernel)
    exact vx_throwS (names := ["java/lang/RuntimeException", "java/lang/Exception"]) (A := (fun _ => False)) hx hb hl0 hown (by decide) (by decide) (hts (.classLink RX4 166 "java/lang/IndexOutOfBoundsException") (by decide +kernel)) (hts (.initialized "java/lang/IndexOutOfBoundsException") (by decide +kernel)) hsa (vx_hat (fun w hw => hts w (atX4_bondNumbered_170 w hw)) thr_ng170 (fun w hw => va_any (thr_ot w hw) (hT.2.2.2 w hw))) (by decide +kernel) hT.1 hT.2.1 va_S.rf (hl.1.trans hml.symm) dX4_bondNumbered_28 dX4_bondNumbered_31 dX4_bondNumbered_32 dX4_bondNumbered_34 dX4_bondNumbered_37 (fun x h => (hte x h).elim) (Nat.le_of_ble_eq_true rfl) (Nat.le_of_ble_eq_true rfl) (Nat.le_of_ble_eq_true rfl) (Nat.le_of_ble_eq_true rfl) hlocks (fun t _ h1 h2 => ⟨(Option.some.inj hf).symm, h1, fun q h3 _ => h2 q h3⟩) (fun z hz => absurd hz List.not_mem_nil) (Nat.le_of_ble_eq_true rfl) (Nat.le_of_ble_eq_true rfl)
  · have hf := ie hf c1
    refine lv_iload_n hx hb dX4_bondNumbered_4 rfl (lv_at hl 1 rfl) ?_
    refine lv_aload_n hx hb dX4_bondNumbered_5 rfl (lv_at hl 0 rfl) ?_
    refine va_get (D := D) (ci := 3) (v := .ref qb) (C := RX4) (T := TX4) (N := 8) hx hb hts inX4_bondNumbered_X4 hown hK hP 0 rfl rfl 1 (by decide) (hts (.fieldLink RX4 15 "BondDesk" "bonds" "[LBondDesk$Bond;") (by decide +kernel)) (fun _ h9 => h9) rfl dX4_bondNumbered_6 ?_
    refine va_alen (v := 10) hx hb hK hP 2 2 rfl rfl rfl dX4_bondNumbered_9 ?_
    refine lv_icmp_ge (tgt := 22) hx hb dX4_bondNumbered_10 (by decide) (fun c2 => ?_) (fun c2 => ?_)
    · have hf := it hf c2
      refine lv_null hx hb dX4_bondNumbered_22 ?_
      refine lv_astore_nN (lv' := [(2, .null), (0, .ref qk), (1, .int a0)]) hx hb dX4_bondNumbered_23 rfl hl (by decide) rfl (fun ls hl => ?_)
      refine lv_aload_nN hx hb dX4_bondNumbered_24 rfl (lv_at hl 0 rfl) ?_
      refine lv_ifnonnullN hx hb dX4_bondNumbered_25 ?_
      obtain ⟨sa, hsa⟩ := hT.2.2.1 (207, "there is no such bond") (by decide +kernel)
      exact vx_throwS (names := ["java/lang/RuntimeException", "java/lang/Exception"]) (A := (fun _ => False)) hx hb hl0 hown (by decide) (by decide) (hts (.classLink RX4 166 "java/lang/IndexOutOfBoundsException") (by decide +kernel)) (hts (.initialized "java/lang/IndexOutOfBoundsException") (by decide +kernel)) hsa (vx_hat (fun w hw => hts w (atX4_bondNumbered_170 w hw)) thr_ng170 (fun w hw => va_any (thr_ot w hw) (hT.2.2.2 w hw))) (by decide +kernel) hT.1 hT.2.1 va_S.rf (hl.1.trans hml.symm) dX4_bondNumbered_28 dX4_bondNumbered_31 dX4_bondNumbered_32 dX4_bondNumbered_34 dX4_bondNumbered_37 (fun x h => (hte x h).elim) (Nat.le_of_ble_eq_true rfl) (Nat.le_of_ble_eq_true rfl) (Nat.le_of_ble_eq_true rfl) (Nat.le_of_ble_eq_true rfl) hlocks (fun t _ h1 h2 => ⟨(Option.some.inj hf).symm, h1, fun q h3 _ => h2 q h3⟩) (fun z hz => absurd hz List.not_mem_nil) (Nat.le_of_ble_eq_true rfl) (Nat.le_of_ble_eq_true rfl)
    · have hf := ie hf c2
      refine lv_aload_n hx hb dX4_bondNumbered_13 rfl (lv_at hl 0 rfl) ?_
      refine va_get (D := D) (ci := 3) (v := .ref qb) (C := RX4) (T := TX4) (N := 8) hx hb hts inX4_bondNumbered_X4 hown hK hP 0 rfl rfl 1 (by decide) (hts (.fieldLink RX4 15 "BondDesk" "bonds" "[LBondDesk$Bond;") (by decide +kernel)) (fun _ h9 => h9) rfl dX4_bondNumbered_14 ?_
      refine lv_iload_n hx hb dX4_bondNumbered_17 rfl (lv_at hl 1 rfl) ?_
      obtain ⟨c3, hf⟩ := gd_s hf
      refine aldB hx hb hK hP 2 2 rfl rfl c3 dX4_bondNumbered_18 (fun c4 => ?_) (fun c4 => ?_)
      · have hf := it hf c4
        refine lv_goto (tgt := 23) hx hb dX4_bondNumbered_19 (by decide) ?_
        refine lv_astore_n (lv' := [(2, .ref (ab a0.toNatClampNeg)), (0, .ref qk), (1, .int a0)]) hx hb dX4_bondNumbered_23 rfl hl (by decide) rfl (fun ls hl => ?_)
        refine lv_aload_n hx hb dX4_bondNumbered_24 rfl (lv_at hl 0 rfl) ?_
        refine lv_ifnonnull (tgt := 38) hx hb dX4_bondNumbered_25 (by decide) ?_
        refine lv_aload_n hx hb dX4_bondNumbered_38 rfl (lv_at hl 0 rfl) ?_
        refine vx_ret ?_
        refine W.widen (k := 1) (n := 6) (Nat.le_of_ble_eq_true rfl) (Nat.le_of_ble_eq_true rfl) ?_
        exact W.aret hx hb hr (Or.inl ⟨_, rfl⟩) (Or.inr ⟨_, rfl⟩) (fun t ht _ => ⟨_, rfl, (Option.some.inj hf).symm, ht⟩) (fun q hq => absurd hq List.not_mem_nil) dX4_bondNumbered_39
      · have hf := ie hf c4
        refine lv_goto (tgt := 23) hx hb dX4_bondNumbered_19 (by decide) ?_
        refine lv_astore_nN (lv' := [(2, .null), (0, .ref qk), (1, .int a0)]) hx hb dX4_bondNumbered_23 rfl hl (by decide) rfl (fun ls hl => ?_)
        refine lv_aload_nN hx hb dX4_bondNumbered_24 rfl (lv_at hl 0 rfl) ?_
        refine lv_ifnonnullN hx hb dX4_bondNumbered_25 ?_
        obtain ⟨sa, hsa⟩ := hT.2.2.1 (207, "there is no such bond") (by decide +kernel)
        exact vx_throwS (names := ["java/lang/RuntimeException", "java/lang/Exception"]) (A := (fun _ => False)) hx hb hl0 hown (by decide) (by decide) (hts (.classLink RX4 166 "java/lang/IndexOutOfBoundsException") (by decide +kernel)) (hts (.initialized "java/lang/IndexOutOfBoundsException") (by decide +kernel)) hsa (vx_hat (fun w hw => hts w (atX4_bondNumbered_170 w hw)) thr_ng170 (fun w hw => va_any (thr_ot w hw) (hT.2.2.2 w hw))) (by decide +kernel) hT.1 hT.2.1 va_S.rf (hl.1.trans hml.symm) dX4_bondNumbered_28 dX4_bondNumbered_31 dX4_bondNumbered_32 dX4_bondNumbered_34 dX4_bondNumbered_37 (fun x h => (hte x h).elim) (Nat.le_of_ble_eq_true rfl) (Nat.le_of_ble_eq_true rfl) (Nat.le_of_ble_eq_true rfl) (Nat.le_of_ble_eq_true rfl) hlocks (fun t _ h1 h2 => ⟨(Option.some.inj hf).symm, h1, fun q h3 _ => h2 q h3⟩) (fun z hz => absurd hz List.not_mem_nil) (Nat.le_of_ble_eq_true rfl) (Nat.le_of_ble_eq_true rfl)
theorem atX4_later_48 : ∀ w ∈ (vx_atS RX4 48 "java/lang/IllegalArgumentException" ["java/lang/RuntimeException", "java/lang/Exception"]).filter goodWord, w ∈ wsX4_later := by decide +kernel
set_option maxHeartbeats 4000000 in
set_option maxRecDepth 100000 in
theorem m_X4_later (l : Launch) (D : va_G) (cI cJ cO : ClassId) (ah : Nat) (qk : Nat) (qh : Nat) (qb : Nat) (ql : Nat) (ab : Nat → Nat) (as_ : Nat → Nat) (ad : Nat → Nat) (K : Nat → Int32) (kc : Int64) (hol : Nat → Int32) (LG : Nat → Int64) (nb : Nat) (bB : Nat → Nat → Int32) (bS : Nat → Nat → Int32) (bT : Nat → Nat → Int64) (bn : Nat → Nat) (bds : Nat → Nat → Int32) (a0 : Int32) (a1 : Int32) (N : Nat) (r : Int32 ⊕ String) (hl0 : l.stackTraces = false) (hf : f_X4_later N a0 a1 = some r) : vx_Met l yX4_later wsX4_later ({ frames := 7, cells := 2, slots := 12, locals := 102 }) (va_Pc [.ref qk, .int a0, .int a1] (pT (pwB D (ty3 cI cJ cO) (some ah) [eK qk qh qb ql K kc, eG cI qh hol, eF cO qb nb ab, eL ql LG] nb (fam cI ab as_ ad bB bS bT bn bds)))) (QTi r) (XT r) 2 12 (fun _ => False) := by
  refine vx_ofW (cc := cX4_later) (maxL := 4) (ret := (some .int)) (by decide) rfl ?_
  intro p e s m args below meth c s₁ Bd hml hte hv
  obtain ⟨rfl, ⟨⟨hZ, hP, hK⟩, hB⟩, hT⟩ := hv
  have hx := Bd.exec
  have hb := Bd.bytes
  have hr := Bd.returns
  have hts := atoms_spec (ws := wsX4_later) Bd.pre
  have hown : s.vm.findClass RX4 = some m.cls := findClass_of_methodNamed Bd.named
  have hlocks := Bd.notSynchronized
  have hl := lv_entry ([.ref qk, .int a0, .int a1]) (n := 4) (Nat.le_of_ble_eq_true rfl)
  rw [lg_entry_eq]
  generalize (lg_sl ([.ref qk, .int a0, .int a1]) ++ List.replicate (4 - (lg_sl ([.ref qk, .int a0, .int a1])).length) Slot.unset).toArray = ls at hl ⊢
  have hl : lv_has ls 4 [(0, .ref qk), (1, .int a0), (2, .int a1)] := hl
  unfold f_X4_later at hf
  refine lv_iload_n hx hb dX4_later_0 rfl (lv_at hl 1 rfl) ?_
  obtain ⟨v1, hv1, hf⟩ := exs hf
  refine xSv (vx_runS (As := [.int a0]) (rest := []) ⟨hx, hb, hml, hown, hts⟩ (m_X4_requireDate l D cI cJ cO ah a0 v1 hl0 hv1) (va_cwS 1 hts gX4_later_X4_requireDate rfl rfl rfl (by decide +kernel) ⟨(Nat.le_of_ble_eq_true rfl), (Nat.le_of_ble_eq_true rfl)⟩) ⟨pT_blind, fun U hU hW => ⟨rfl, pw_at hZ va_S.rf hP hK hU hW (Or.inr rfl) [] rfl, pX_at hT va_S.rf hU hW⟩⟩ rfl rfl hl.1 rfl (lv_room (Nat.le_of_ble_eq_true rfl)) dX4_later_1 ⟨(Nat.le_of_ble_eq_true rfl), (Nat.le_of_ble_eq_true rfl)⟩) (fun E ce q9 H1 locs1 hE hz9 hk9 hS9 hc9 hv9 hl9 => vx_widen (k := 2) (n := 12) (Nat.le_of_ble_eq_true rfl) (Nat.le_of_ble_eq_true rfl) (vx_out (fun x h => (hte x h).elim) hlocks hc9 hv9 hl9 (fun t ht _ => ⟨ex_r hf hE, by rw [ht]; exact hz9, fun q h3 _ => by rw [ht]; exact hk9 q h3⟩) (fun z hz => absurd hz (by rw [hS9]; exact List.not_mem_nil)) (Nat.le_refl _) (Nat.le_refl _))) (fun v2 ev2 => ?_)
  have hf := ex_l hf ev2
  refine lv_iload_n hx hb dX4_later_4 rfl (lv_at hl 2 rfl) ?_
  refine lv_sipush (v := (-1000)) hx hb dX4_later_5 (by decide) ?_
  refine lv_icmp_lt (tgt := 18) hx hb dX4_later_8 (by decide) (fun c3 => ?_) (fun c3 => ?_)
  · have hf := it hf c3
    obtain ⟨sa, hsa⟩ := hT.2.2.1 (46, "days is not -1000 to 1000") (by decide +kernel)
    exact vx_throwS (names := ["java/lang/RuntimeException", "java/lang/Exception"]) (A := (fun _ => False)) hx hb hl0 hown (by decide) (by decide) (hts (.classLink RX4 44 "java/lang/IllegalArgumentException") (by decide +kernel)) (hts (.initialized "java/lang/IllegalArgumentException") (by decide +kernel)) hsa (vx_hat (fun w hw => hts w (atX4_later_48 w hw)) thr_ng48 (fun w hw => va_any (thr_ot w hw) (hT.2.2.2 w hw))) (by decide +kernel) hT.1 hT.2.1 va_S.rf (hl.1.trans hml.symm) dX4_later_18 dX4_later_21 dX4_later_22 dX4_later_24 dX4_later_27 (fun x h => (hte x h).elim) (Nat.le_of_ble_eq_true rfl) (Nat.le_of_ble_eq_true rfl) (Nat.le_of_ble_eq_true rfl) (Nat.le_of_ble_eq_true rfl) hlocks (fun t _ h1 h2 => ⟨(Option.some.inj hf).symm, h1, fun q h3 _ => h2 q h3⟩) (fun z hz => absurd hz List.not_mem_nil) (Nat.le_of_ble_eq_true rfl) (Nat.le_of_ble_eq_true rfl)
  · have hf := ie hf c3
    refine lv_iload_n hx hb dX4_later_11 rfl (lv_at hl 2 rfl) ?_
    refine lv_sipush (v := 1000) hx hb dX4_later_12 (by decide) ?_
    refine lv_icmp_le (tgt := 28) hx hb dX4_later_15 (by decide) (fun c4 => ?_) (fun c4 => ?_)
    · have hf := it hf c4
      refine lv_iload_n hx hb dX4_later_28 rfl (lv_at hl 1 rfl) ?_
      obtain ⟨v5, hv5, hf⟩ := ob hf
      refine cSi (W.runS (As := [.int a0]) (rest := []) ⟨hx, hb, hml, hown, hts⟩ (m_X1_dayNumber l D cI cJ cO ah a0 v5 hv5) (va_cwS 1 hts gX4_later_X1_dayNumber rfl rfl rfl (by decide +kernel) ⟨(Nat.le_of_ble_eq_true rfl), (Nat.le_of_ble_eq_true rfl)⟩) ⟨pw_blind, fun U hU hW => ⟨rfl, pw_at hZ va_S.rf hP hK hU hW (Or.inr rfl) [] rfl⟩⟩ rfl rfl hl.1 rfl (lv_room (Nat.le_of_ble_eq_true rfl)) dX4_later_29 ⟨(Nat.le_of_ble_eq_true rfl), (Nat.le_of_ble_eq_true rfl)⟩) ?_
      refine lv_iload_n hx hb dX4_later_32 rfl (lv_at hl 2 rfl) ?_
      refine lv_iadd hx hb dX4_later_33 ?_
      refine lv_topi (fun x6 ex6 => ?_)
      have hf := bd_s hf ex6
      refine lv_istore_n (lv' := [(3, .int x6), (0, .ref qk), (1, .int a0), (2, .int a1)]) hx hb dX4_later_34 rfl hl (by decide) rfl (fun ls hl => ?_)
      refine lv_iload_n hx hb dX4_later_35 rfl (lv_at hl 0 rfl) ?_
      refine lv_if_lt (tgt := 48) hx hb dX4_later_36 (by decide) (fun c7 => ?_) (fun c7 => ?_)
      · have hf := it hf c7
        obtain ⟨sa, hsa⟩ := hT.2.2.1 (58, "the date that is reached is beyond the calendar") (by decide +kernel)
        exact vx_throwS (names := ["java/lang/RuntimeException", "java/lang/Exception"]) (A := (fun _ => False)) hx hb hl0 hown (by decide) (by decide) (hts (.classLink RX4 44 "java/lang/IllegalArgumentException") (by decide +kernel)) (hts (.initialized "java/lang/IllegalArgumentException") (by decide +kernel)) hsa (vx_hat (fun w hw => hts w (atX4_later_48 w hw)) thr_ng48 (fun w hw => va_any (thr_ot w hw) (hT.2.2.2 w hw))) (by decide +kernel) hT.1 hT.2.1 va_S.rf (hl.1.trans hml.symm) dX4_later_48 dX4_later_51 dX4_later_52 dX4_later_54 dX4_later_57 (fun x h => (hte x h).elim) (Nat.le_of_ble_eq_true rfl) (Nat.le_of_ble_eq_true rfl) (Nat.le_of_ble_eq_true rfl) (Nat.le_of_ble_eq_true rfl) hlocks (fun t _ h1 h2 => ⟨(Option.some.inj hf).symm, h1, fun q h3 _ => h2 q h3⟩) (fun z hz => absurd hz List.not_mem_nil) (Nat.le_of_ble_eq_true rfl) (Nat.le_of_ble_eq_true rfl)
      · have hf := ie hf c7
        refine lv_iload_n hx hb dX4_later_39 rfl (lv_at hl 0 rfl) ?_
        refine lv_ldc hx hb hown (hts (.constant RX4 57 (20661231)) (by decide +kernel)) dX4_later_40 ?_
        obtain ⟨v8, hv8, hf⟩ := ob hf
        refine cSi (W.runS (As := [.int 20661231]) (rest := [.int x6]) ⟨hx, hb, hml, hown, hts⟩ (m_X1_dayNumber l D cI cJ cO ah 20661231 v8 hv8) (va_cwS 1 hts gX4_later_X1_dayNumber rfl rfl rfl (by decide +kernel) ⟨(Nat.le_of_ble_eq_true rfl), (Nat.le_of_ble_eq_true rfl)⟩) ⟨pw_blind, fun U hU hW => ⟨rfl, pw_at hZ va_S.rf hP hK hU hW (Or.inr rfl) [] rfl⟩⟩ rfl rfl hl.1 rfl (lv_room (Nat.le_of_ble_eq_true rfl)) dX4_later_42 ⟨(Nat.le_of_ble_eq_true rfl), (Nat.le_of_ble_eq_true rfl)⟩) ?_
        refine lv_icmp_le (tgt := 58) hx hb dX4_later_45 (by decide) (fun c9 => ?_) (fun c9 => ?_)
        · have hf := it hf c9
          refine lv_iload_n hx hb dX4_later_58 rfl (lv_at hl 0 rfl) ?_
          obtain ⟨v10, hv10, hf⟩ := ob hf
          refine cSi (W.runS (As := [.int x6]) (rest := []) ⟨hx, hb, hml, hown, hts⟩ (m_X1_dateOf l D cI cJ cO ah x6 N v10 hv10) (va_cwS 1 hts gX4_later_X1_dateOf rfl rfl rfl (by decide +kernel) ⟨(Nat.le_of_ble_eq_true rfl), (Nat.le_of_ble_eq_true rfl)⟩) ⟨pw_blind, fun U hU hW => ⟨rfl, pw_at hZ va_S.rf hP hK hU hW (Or.inr rfl) [] rfl⟩⟩ rfl rfl hl.1 rfl (lv_room (Nat.le_of_ble_eq_true rfl)) dX4_later_59 ⟨(Nat.le_of_ble_eq_true rfl), (Nat.le_of_ble_eq_true rfl)⟩) ?_
          refine vx_ret ?_
          refine W.widen (k := 2) (n := 12) (Nat.le_of_ble_eq_true rfl) (Nat.le_of_ble_eq_true rfl) ?_
          exact W.iret hx hb hr (fun t ht _ => ⟨_, rfl, (Option.some.inj hf).symm, ht⟩) (fun q hq => absurd hq List.not_mem_nil) dX4_later_62
        · have hf := ie hf c9
          obtain ⟨sa, hsa⟩ := hT.2.2.1 (58, "the date that is reached is beyond the calendar") (by decide +kernel)
          exact vx_throwS (names := ["java/lang/RuntimeException", "java/lang/Exception"]) (A := (fun _ => False)) hx hb hl0 hown (by decide) (by decide) (hts (.classLink RX4 44 "java/lang/IllegalArgumentException") (by decide +kernel)) (hts (.initialized "java/lang/IllegalArgumentException") (by decide +kernel)) hsa (vx_hat (fun w hw => hts w (atX4_later_48 w hw)) thr_ng48 (fun w hw => va_any (thr_ot w hw) (hT.2.2.2 w hw))) (by decide +kernel) hT.1 hT.2.1 va_S.rf (hl.1.trans hml.symm) dX4_later_48 dX4_later_51 dX4_later_52 dX4_later_54 dX4_later_57 (fun x h => (hte x h).elim) (Nat.le_of_ble_eq_true rfl) (Nat.le_of_ble_eq_true rfl) (Nat.le_of_ble_eq_true rfl) (Nat.le_of_ble_eq_true rfl) hlocks (fun t _ h1 h2 => ⟨(Option.some.inj hf).symm, h1, fun q h3 _ => h2 q h3⟩) (fun z hz => absurd hz List.not_mem_nil) (Nat.le_of_ble_eq_true rfl) (Nat.le_of_ble_eq_true rfl)
    · have hf := ie hf c4
      obtain ⟨sa, hsa⟩ := hT.2.2.1 (46, "days is not -1000 to 1000") (by decide +kernel)
      exact vx_throwS (names := ["java/lang/RuntimeException", "java/lang/Exception"]) (A := (fun _ => False)) hx hb hl0 hown (by decide) (by decide) (hts (.classLink RX4 44 "java/lang/IllegalArgumentException") (by decide +kernel)) (hts (.initialized "java/lang/IllegalArgumentException") (by decide +kernel)) hsa (vx_hat (fun w hw => hts w (atX4_later_48 w hw)) thr_ng48 (fun w hw => va_any (thr_ot w hw) (hT.2.2.2 w hw))) (by decide +kernel) hT.1 hT.2.1 va_S.rf (hl.1.trans hml.symm) dX4_later_18 dX4_later_21 dX4_later_22 dX4_later_24 dX4_later_27 (fun x h => (hte x h).elim) (Nat.le_of_ble_eq_true rfl) (Nat.le_of_ble_eq_true rfl) (Nat.le_of_ble_eq_true rfl) (Nat.le_of_ble_eq_true rfl) hlocks (fun t _ h1 h2 => ⟨(Option.some.inj hf).symm, h1, fun q h3 _ => h2 q h3⟩) (fun z hz => absurd hz List.not_mem_nil) (Nat.le_of_ble_eq_true rfl) (Nat.le_of_ble_eq_true rfl)
set_option maxHeartbeats 4000000 in
set_option maxRecDepth 100000 in
theorem m_X4_weekday (l : Launch) (D : va_G) (cI cJ cO : ClassId) (ah : Nat) (qk : Nat) (qh : Nat) (qb : Nat) (ql : Nat) (ab : Nat → Nat) (as_ : Nat → Nat) (ad : Nat → Nat) (K : Nat → Int32) (kc : Int64) (hol : Nat → Int32) (LG : Nat → Int64) (nb : Nat) (bB : Nat → Nat → Int32) (bS : Nat → Nat → Int32) (bT : Nat → Nat → Int64) (bn : Nat → Nat) (bds : Nat → Nat → Int32) (a0 : Int32) (r : Int32 ⊕ String) (hl0 : l.stackTraces = false) (hf : f_X4_weekday a0 = some r) : vx_Met l yX4_weekday wsX4_weekday ({ frames := 7, cells := 1, slots := 6, locals := 102 }) (va_Pc [.ref qk, .int a0] (pT (pwB D (ty3 cI cJ cO) (some ah) [eK qk qh qb ql K kc, eG cI qh hol, eF cO qb nb ab, eL ql LG] nb (fam cI ab as_ ad bB bS bT bn bds)))) (QTi r) (XT r) 1 6 (fun _ => False) := by
  refine vx_ofW (cc := cX4_weekday) (maxL := 2) (ret := (some .int)) (by decide) rfl ?_
  intro p e s m args below meth c s₁ Bd hml hte hv
  obtain ⟨rfl, ⟨⟨hZ, hP, hK⟩, hB⟩, hT⟩ := hv
  have hx := Bd.exec
  have hb := Bd.bytes
  have hr := Bd.returns
  have hts := atoms_spec (ws := wsX4_weekday) Bd.pre
  have hown : s.vm.findClass RX4 = some m.cls := findClass_of_methodNamed Bd.named
  have hlocks := Bd.notSynchronized
  have hl := lv_entry ([.ref qk, .int a0]) (n := 2) (Nat.le_of_ble_eq_true rfl)
  rw [lg_entry_eq]
  generalize (lg_sl ([.ref qk, .int a0]) ++ List.replicate (2 - (lg_sl ([.ref qk, .int a0])).length) Slot.unset).toArray = ls at hl ⊢
  have hl : lv_has ls 2 [(0, .ref qk), (1, .int a0)] := hl
  unfold f_X4_weekday at hf
  refine lv_iload_n hx hb dX4_weekday_0 rfl (lv_at hl 1 rfl) ?_
  obtain ⟨v1, hv1, hf⟩ := exs hf
  refine xSv (vx_runS (As := [.int a0]) (rest := []) ⟨hx, hb, hml, hown, hts⟩ (m_X4_requireDate l D cI cJ cO ah a0 v1 hl0 hv1) (va_cwS 1 hts gX4_weekday_X4_requireDate rfl rfl rfl (by decide +kernel) ⟨(Nat.le_of_ble_eq_true rfl), (Nat.le_of_ble_eq_true rfl)⟩) ⟨pT_blind, fun U hU hW => ⟨rfl, pw_at hZ va_S.rf hP hK hU hW (Or.inr rfl) [] rfl, pX_at hT va_S.rf hU hW⟩⟩ rfl rfl hl.1 rfl (lv_room (Nat.le_of_ble_eq_true rfl)) dX4_weekday_1 ⟨(Nat.le_of_ble_eq_true rfl), (Nat.le_of_ble_eq_true rfl)⟩) (fun E ce q9 H1 locs1 hE hz9 hk9 hS9 hc9 hv9 hl9 => vx_widen (k := 1) (n := 6) (Nat.le_of_ble_eq_true rfl) (Nat.le_of_ble_eq_true rfl) (vx_out (fun x h => (hte x h).elim) hlocks hc9 hv9 hl9 (fun t ht _ => ⟨ex_r hf hE, by rw [ht]; exact hz9, fun q h3 _ => by rw [ht]; exact hk9 q h3⟩) (fun z hz => absurd hz (by rw [hS9]; exact List.not_mem_nil)) (Nat.le_refl _) (Nat.le_refl _))) (fun v2 ev2 => ?_)
  have hf := ex_l hf ev2
  refine lv_iload_n hx hb dX4_weekday_4 rfl (lv_at hl 1 rfl) ?_
  obtain ⟨v3, hv3, hf⟩ := ob hf
  refine cSi (W.runS (As := [.int a0]) (rest := []) ⟨hx, hb, hml, hown, hts⟩ (m_X1_dayNumber l D cI cJ cO ah a0 v3 hv3) (va_cwS 1 hts gX4_weekday_X1_dayNumber rfl rfl rfl (by decide +kernel) ⟨(Nat.le_of_ble_eq_true rfl), (Nat.le_of_ble_eq_true rfl)⟩) ⟨pw_blind, fun U hU hW => ⟨rfl, pw_at hZ va_S.rf hP hK hU hW (Or.inr rfl) [] rfl⟩⟩ rfl rfl hl.1 rfl (lv_room (Nat.le_of_ble_eq_true rfl)) dX4_weekday_5 ⟨(Nat.le_of_ble_eq_true rfl), (Nat.le_of_ble_eq_true rfl)⟩) ?_
  obtain ⟨v4, hv4, hf⟩ := ob hf
  refine cSi (W.runS (As := [.int v3]) (rest := []) ⟨hx, hb, hml, hown, hts⟩ (m_X1_dayOfWeek l D cI cJ cO ah v3 v4 hv4) (va_cwS 1 hts gX4_weekday_X1_dayOfWeek rfl rfl rfl (by decide +kernel) ⟨(Nat.le_of_ble_eq_true rfl), (Nat.le_of_ble_eq_true rfl)⟩) ⟨pw_blind, fun U hU hW => ⟨rfl, pw_at hZ va_S.rf hP hK hU hW (Or.inr rfl) [] rfl⟩⟩ rfl rfl hl.1 rfl (lv_room (Nat.le_of_ble_eq_true rfl)) dX4_weekday_8 ⟨(Nat.le_of_ble_eq_true rfl), (Nat.le_of_ble_eq_true rfl)⟩) ?_
  refine vx_ret ?_
  refine W.widen (k := 1) (n := 6) (Nat.le_of_ble_eq_true rfl) (Nat.le_of_ble_eq_true rfl) ?_
  exact W.iret hx hb hr (fun t ht _ => ⟨_, rfl, (Option.some.inj hf).symm, ht⟩) (fun q hq => absurd hq List.not_mem_nil) dX4_weekday_11
theorem atX4_working_48 : ∀ w ∈ (vx_atS RX4 48 "java/lang/IllegalArgumentException" ["java/lang/RuntimeException", "java/lang/Exception"]).filter goodWord, w ∈ wsX4_working := by decide +kernel
set_option maxHeartbeats 4000000 in
set_option maxRecDepth 100000 in
theorem m_X4_working (l : Launch) (D : va_G) (cI cJ cO : ClassId) (ah : Nat) (qk : Nat) (qh : Nat) (qb : Nat) (ql : Nat) (ab : Nat → Nat) (K : Nat → Int32) (kc : Int64) (hol : Nat → Int32) (LG : Nat → Int64) (nb : Nat) (a0 : Int32) (N : Nat) (r : Int32 ⊕ String) (hl0 : l.stackTraces = false) (hf : f_X4_working N hol a0 = some r) : vx_Met l yX4_working wsX4_working ({ frames := 7, cells := 2, slots := 12, locals := 102 }) (va_Pc [.ref qk, .int a0] (pT (pw D (ty3 cI cJ cO) (some ah) [eK qk qh qb ql K kc, eG cI qh hol, eF cO qb nb ab, eL ql LG]))) (QTi r) (XT r) 2 12 (fun _ => False) := by
  refine vx_ofW (cc := cX4_working) (maxL := 2) (ret := (some .int)) (by decide) rfl ?_
  intro p e s m args below meth c s₁ Bd hml hte hv
  obtain ⟨rfl, ⟨hZ, hP, hK⟩, hT⟩ := hv
  have hx := Bd.exec
  have hb := Bd.bytes
  have hr := Bd.returns
  have hts := atoms_spec (ws := wsX4_working) Bd.pre
  have hown : s.vm.findClass RX4 = some m.cls := findClass_of_methodNamed Bd.named
  have hlocks := Bd.notSynchronized
  have hl := lv_entry ([.ref qk, .int a0]) (n := 2) (Nat.le_of_ble_eq_true rfl)
  rw [lg_entry_eq]
  generalize (lg_sl ([.ref qk, .int a0]) ++ List.replicate (2 - (lg_sl ([.ref qk, .int a0])).length) Slot.unset).toArray = ls at hl ⊢
  have hl : lv_has ls 2 [(0, .ref qk), (1, .int a0)] := hl
  unfold f_X4_working at hf
  refine lv_iload_n hx hb dX4_working_0 rfl (lv_at hl 1 rfl) ?_
  obtain ⟨v1, hv1, hf⟩ := exs hf
  refine xSv (vx_runS (As := [.int a0]) (rest := []) ⟨hx, hb, hml, hown, hts⟩ (m_X4_requireDate l D cI cJ cO ah a0 v1 hl0 hv1) (va_cwS 1 hts gX4_working_X4_requireDate rfl rfl rfl (by decide +kernel) ⟨(Nat.le_of_ble_eq_true rfl), (Nat.le_of_ble_eq_true rfl)⟩) ⟨pT_blind, fun U hU hW => ⟨rfl, pw_at hZ va_S.rf hP hK hU hW (Or.inr rfl) [] rfl, pX_at hT va_S.rf hU hW⟩⟩ rfl rfl hl.1 rfl (lv_room (Nat.le_of_ble_eq_true rfl)) dX4_working_1 ⟨(Nat.le_of_ble_eq_true rfl), (Nat.le_of_ble_eq_true rfl)⟩) (fun E ce q9 H1 locs1 hE hz9 hk9 hS9 hc9 hv9 hl9 => vx_widen (k := 2) (n := 12) (Nat.le_of_ble_eq_true rfl) (Nat.le_of_ble_eq_true rfl) (vx_out (fun x h => (hte x h).elim) hlocks hc9 hv9 hl9 (fun t ht _ => ⟨ex_r hf hE, by rw [ht]; exact hz9, fun q h3 _ => by rw [ht]; exact hk9 q h3⟩) (fun z hz => absurd hz (by rw [hS9]; exact List.not_mem_nil)) (Nat.le_refl _) (Nat.le_refl _))) (fun v2 ev2 => ?_)
  have hf := ex_l hf ev2
  refine lv_iload_n hx hb dX4_working_4 rfl (lv_at hl 1 rfl) ?_
  refine lv_ldc hx hb hown (hts (.constant RX4 78 (20661101)) (by decide +kernel)) dX4_working_5 ?_
  refine lv_icmp_le (tgt := 20) hx hb dX4_working_7 (by decide) (fun c3 => ?_) (fun c3 => ?_)
  · have hf := it hf c3
    refine lv_aload_n hx hb dX4_working_20 rfl (lv_at hl 0 rfl) ?_
    refine lv_iload_n hx hb dX4_working_21 rfl (lv_at hl 1 rfl) ?_
    obtain ⟨v4, hv4, hf⟩ := ob hf
    refine cSi (W.runV (As := [.int a0]) (rest := []) ⟨hx, hb, hml, hown, hts⟩ (m_X4_nextWorkingDate l D cI cJ cO ah qk qh qb ql ab K kc hol LG nb a0 N v4 hv4) (cwV 1 hts gX4_working_X4_nextWorkingDate rfl rfl rfl (by decide +kernel) ⟨(Nat.le_of_ble_eq_true rfl), (Nat.le_of_ble_eq_true rfl)⟩) ⟨pw_blind, va_recv hK hP (ci := 3) (q0 := 0) rfl rfl, fun U hU hW => ⟨rfl, pw_at hZ va_S.rf hP hK hU hW (Or.inr rfl) [0, 1, 2, 3] rfl⟩⟩ rfl rfl hl.1 rfl (lv_room (Nat.le_of_ble_eq_true rfl)) dX4_working_22 ⟨(Nat.le_of_ble_eq_true rfl), (Nat.le_of_ble_eq_true rfl)⟩) ?_
    refine vx_ret ?_
    refine W.widen (k := 2) (n := 12) (Nat.le_of_ble_eq_true rfl) (Nat.le_of_ble_eq_true rfl) ?_
    exact W.iret hx hb hr (fun t ht _ => ⟨_, rfl, (Option.some.inj hf).symm, ht⟩) (fun q hq => absurd hq List.not_mem_nil) dX4_working_25
  · have hf := ie hf c3
    obtain ⟨sa, hsa⟩ := hT.2.2.1 (79, "the date is later than 20661101") (by decide +kernel)
    exact vx_throwS (names := ["java/lang/RuntimeException", "java/lang/Exception"]) (A := (fun _ => False)) hx hb hl0 hown (by decide) (by decide) (hts (.classLink RX4 44 "java/lang/IllegalArgumentException") (by decide +kernel)) (hts (.initialized "java/lang/IllegalArgumentException") (by decide +kernel)) hsa (vx_hat (fun w hw => hts w (atX4_working_48 w hw)) thr_ng48 (fun w hw => va_any (thr_ot w hw) (hT.2.2.2 w hw))) (by decide +kernel) hT.1 hT.2.1 va_S.rf (hl.1.trans hml.symm) dX4_working_10 dX4_working_13 dX4_working_14 dX4_working_16 dX4_working_19 (fun x h => (hte x h).elim) (Nat.le_of_ble_eq_true rfl) (Nat.le_of_ble_eq_true rfl) (Nat.le_of_ble_eq_true rfl) (Nat.le_of_ble_eq_true rfl) hlocks (fun t _ h1 h2 => ⟨(Option.some.inj hf).symm, h1, fun q h3 _ => h2 q h3⟩) (fun z hz => absurd hz List.not_mem_nil) (Nat.le_of_ble_eq_true rfl) (Nat.le_of_ble_eq_true rfl)
theorem atX4_bond_170 : ∀ w ∈ (vx_atS RX4 170 "java/lang/IndexOutOfBoundsException" ["java/lang/RuntimeException", "java/lang/Exception"]).filter goodWord, w ∈ wsX4_bond := by decide +kernel
set_option maxHeartbeats 4000000 in
set_option maxRecDepth 100000 in
theorem m_X4_bond (l : Launch) (D : va_G) (cI cJ cO : ClassId) (ah : Nat) (qk : Nat) (qh : Nat) (qb : Nat) (ql : Nat) (ab : Nat → Nat) (as_ : Nat → Nat) (ad : Nat → Nat) (K : Nat → Int32) (kc : Int64) (hol : Nat → Int32) (LG : Nat → Int64) (nb : Nat) (bB : Nat → Nat → Int32) (bS : Nat → Nat → Int32) (bT : Nat → Nat → Int64) (bn : Nat → Nat) (bds : Nat → Nat → Int32) (a0 : Int32) (a1 : Int32) (r : Int32 ⊕ String) (hl0 : l.stackTraces = false) (hf : f_X4_bond nb bB bS bn a0 a1 = some r) : vx_Met l yX4_bond wsX4_bond ({ frames := 7, cells := 2, slots := 12, locals := 104 }) (va_Pc [.ref qk, .int a0, .int a1] (pT (pwB D (ty3 cI cJ cO) (some ah) [eK qk qh qb ql K kc, eG cI qh hol, eF cO qb nb ab, eL ql LG] nb (fam cI ab as_ ad bB bS bT bn bds)))) (QTi r) (XT r) 2 12 (fun _ => False) := by
  refine vx_ofW (cc := cX4_bond) (maxL := 4) (ret := (some .int)) (by decide) rfl ?_
  intro p e s m args below meth c s₁ Bd hml hte hv
  obtain ⟨rfl, ⟨⟨hZ, hP, hK⟩, hB⟩, hT⟩ := hv
  have hx := Bd.exec
  have hb := Bd.bytes
  have hr := Bd.returns
  have hts := atoms_spec (ws := wsX4_bond) Bd.pre
  have hown : s.vm.findClass RX4 = some m.cls := findClass_of_methodNamed Bd.named
  have hlocks := Bd.notSynchronized
  have hl := lv_entry ([.ref qk, .int a0, .int a1]) (n := 4) (Nat.le_of_ble_eq_true rfl)
  rw [lg_entry_eq]
  generalize (lg_sl ([.ref qk, .int a0, .int a1]) ++ List.replicate (4 - (lg_sl ([.ref qk, .int a0, .int a1])).length) Slot.unset).toArray = ls at hl ⊢
  have hl : lv_has ls 4 [(0, .ref qk), (1, .int a0), (2, .int a1)] := hl
  unfold f_X4_bond at hf
  refine lv_aload_n hx hb dX4_bond_0 rfl (lv_at hl 0 rfl) ?_
  refine lv_iload_n hx hb dX4_bond_1 rfl (lv_at hl 1 rfl) ?_
  obtain ⟨v1, hv1, hf⟩ := exs hf
  refine xSr (ad := ab) (vx_runV (As := [.int a0]) (rest := []) ⟨hx, hb, hml, hown, hts⟩ (m_X4_bondNumbered l D cI cJ cO ah qk qh qb ql ab K kc hol LG nb a0 v1 hl0 hv1) (cwV 1 hts gX4_bond_X4_bondNumbered rfl rfl rfl (by decide +kernel) ⟨(Nat.le_of_ble_eq_true rfl), (Nat.le_of_ble_eq_true rfl)⟩) ⟨pT_blind, va_recv hK hP (ci := 3) (q0 := 0) rfl rfl, fun U hU hW => ⟨rfl, pw_at hZ va_S.rf hP hK hU hW (Or.inr rfl) [0, 1, 2, 3] rfl, pX_at hT va_S.rf hU hW⟩⟩ rfl rfl hl.1 rfl (lv_room (Nat.le_of_ble_eq_true rfl)) dX4_bond_2 ⟨(Nat.le_of_ble_eq_true rfl), (Nat.le_of_ble_eq_true rfl)⟩) (fun E ce q9 H1 locs1 hE hz9 hk9 hS9 hc9 hv9 hl9 => vx_widen (k := 2) (n := 12) (Nat.le_of_ble_eq_true rfl) (Nat.le_of_ble_eq_true rfl) (vx_out (fun x h => (hte x h).elim) hlocks hc9 hv9 hl9 (fun t ht _ => ⟨ex_r hf hE, by rw [ht]; exact hz9, fun q h3 _ => by rw [ht]; exact hk9 q h3⟩) (fun z hz => absurd hz (by rw [hS9]; exact List.not_mem_nil)) (Nat.le_refl _) (Nat.le_refl _))) (fun v2 ev2 => ?_)
  have hf := ex_l hf ev2
  have c3 : v2 < nb := lt_X4_bondNumbered hv1 ev2
  refine lv_astore_n (lv' := [(3, .ref (ab v2)), (0, .ref qk), (1, .int a0), (2, .int a1)]) hx hb dX4_bond_5 rfl hl (by decide) rfl (fun ls hl => ?_)
  refine lv_iload_n hx hb dX4_bond_6 rfl (lv_at hl 3 rfl) ?_
  refine lv_if_lt (tgt := 16) hx hb dX4_bond_7 (by decide) (fun c4 => ?_) (fun c4 => ?_)
  · have hf := it hf c4
    obtain ⟨sa, hsa⟩ := hT.2.2.1 (168, "what is not 0 to 10") (by decide +kernel)
    exact vx_throwS (names := ["java/lang/RuntimeException", "java/lang/Exception"]) (A := (fun _ => False)) hx hb hl0 hown (by decide) (by decide) (hts (.classLink RX4 166 "java/lang/IndexOutOfBoundsException") (by decide +kernel)) (hts (.initialized "java/lang/IndexOutOfBoundsException") (by decide +kernel)) hsa (vx_hat (fun w hw => hts w (atX4_bond_170 w hw)) thr_ng170 (fun w hw => va_any (thr_ot w hw) (hT.2.2.2 w hw))) (by decide +kernel) hT.1 hT.2.1 va_S.rf (hl.1.trans hml.symm) dX4_bond_16 dX4_bond_19 dX4_bond_20 dX4_bond_22 dX4_bond_25 (fun x h => (hte x h).elim) (Nat.le_of_ble_eq_true rfl) (Nat.le_of_ble_eq_true rfl) (Nat.le_of_ble_eq_true rfl) (Nat.le_of_ble_eq_true rfl) hlocks (fun t _ h1 h2 => ⟨(Option.some.inj hf).symm, h1, fun q h3 _ => h2 q h3⟩) (fun z hz => absurd hz List.not_mem_nil) (Nat.le_of_ble_eq_true rfl) (Nat.le_of_ble_eq_true rfl)
  · have hf := ie hf c4
    refine lv_iload_n hx hb dX4_bond_10 rfl (lv_at hl 3 rfl) ?_
    refine lv_bipush (v := 10) hx hb dX4_bond_11 (by decide) ?_
    refine lv_icmp_le (tgt := 26) hx hb dX4_bond_13 (by decide) (fun c5 => ?_) (fun c5 => ?_)
    · have hf := it hf c5
      refine lv_aload_n hx hb dX4_bond_26 rfl (lv_at hl 0 rfl) ?_
      refine lv_iload_n hx hb dX4_bond_27 rfl (lv_at hl 3 rfl) ?_
      obtain ⟨v6, hv6, hf⟩ := ob hf
      refine cSi (W.runV (As := [.int a1]) (rest := []) ⟨hx, hb, hml, hown, hts⟩ (m_X0_tell l D cI cJ cO ah (ab v2) (as_ v2) (ad v2) (bB v2) (bS v2) (bT v2) (bn v2) (bds v2) a1 v6 hv6) (cwV 1 hts gX4_bond_X0_tell rfl rfl rfl (by decide +kernel) ⟨(Nat.le_of_ble_eq_true rfl), (Nat.le_of_ble_eq_true rfl)⟩) ⟨pw_blind, va_recv hK (hB v2 c3) (ci := 0) (q0 := 2) rfl rfl, fun U hU hW => ⟨rfl, pw_at hZ va_S.rf (hB v2 c3) hK hU hW (Or.inr rfl) [0, 1, 2] rfl⟩⟩ rfl rfl hl.1 rfl (lv_room (Nat.le_of_ble_eq_true rfl)) dX4_bond_28 ⟨(Nat.le_of_ble_eq_true rfl), (Nat.le_of_ble_eq_true rfl)⟩) ?_
      refine vx_ret ?_
      refine W.widen (k := 2) (n := 12) (Nat.le_of_ble_eq_true rfl) (Nat.le_of_ble_eq_true rfl) ?_
      exact W.iret hx hb hr (fun t ht _ => ⟨_, rfl, (Option.some.inj hf).symm, ht⟩) (fun q hq => absurd hq List.not_mem_nil) dX4_bond_31
    · have hf := ie hf c5
      obtain ⟨sa, hsa⟩ := hT.2.2.1 (168, "what is not 0 to 10") (by decide +kernel)
      exact vx_throwS (names := ["java/lang/RuntimeException", "java/lang/Exception"]) (A := (fun _ => False)) hx hb hl0 hown (by decide) (by decide) (hts (.classLink RX4 166 "java/lang/IndexOutOfBoundsException") (by decide +kernel)) (hts (.initialized "java/lang/IndexOutOfBoundsException") (by decide +kernel)) hsa (vx_hat (fun w hw => hts w (atX4_bond_170 w hw)) thr_ng170 (fun w hw => va_any (thr_ot w hw) (hT.2.2.2 w hw))) (by decide +kernel) hT.1 hT.2.1 va_S.rf (hl.1.trans hml.symm) dX4_bond_16 dX4_bond_19 dX4_bond_20 dX4_bond_22 dX4_bond_25 (fun x h => (hte x h).elim) (Nat.le_of_ble_eq_true rfl) (Nat.le_of_ble_eq_true rfl) (Nat.le_of_ble_eq_true rfl) (Nat.le_of_ble_eq_true rfl) hlocks (fun t _ h1 h2 => ⟨(Option.some.inj hf).symm, h1, fun q h3 _ => h2 q h3⟩) (fun z hz => absurd hz List.not_mem_nil) (Nat.le_of_ble_eq_true rfl) (Nat.le_of_ble_eq_true rfl)
theorem inX4_coupon_X0 : ∀ w ∈ wsX00, w ∈ wsX4_coupon := by decide +kernel
theorem inX4_coupon_X3 : ∀ w ∈ wsX30, w ∈ wsX4_coupon := by decide +kernel
theorem atX4_coupon_170 : ∀ w ∈ (vx_atS RX4 170 "java/lang/IndexOutOfBoundsException" ["java/lang/RuntimeException", "java/lang/Exception"]).filter goodWord, w ∈ wsX4_coupon := by decide +kernel
set_option maxHeartbeats 4000000 in
set_option maxRecDepth 100000 in
theorem m_X4_coupon (l : Launch) (D : va_G) (cI cJ cO : ClassId) (ah : Nat) (qk : Nat) (qh : Nat) (qb : Nat) (ql : Nat) (ab : Nat → Nat) (as_ : Nat → Nat) (ad : Nat → Nat) (K : Nat → Int32) (kc : Int64) (hol : Nat → Int32) (LG : Nat → Int64) (nb : Nat) (bB : Nat → Nat → Int32) (bS : Nat → Nat → Int32) (bT : Nat → Nat → Int64) (bn : Nat → Nat) (bds : Nat → Nat → Int32) (a0 : Int32) (a1 : Int32) (a2 : Int32) (N : Nat) (r : Int32 ⊕ String) (hl0 : l.stackTraces = false) (hf : f_X4_coupon N hol nb bS bT bn bds a0 a1 a2 = some r) : vx_Met l yX4_coupon wsX4_coupon ({ frames := 7, cells := 2, slots := 12, locals := 104 }) (va_Pc [.ref qk, .int a0, .int a1, .int a2] (pT (pwB D (ty3 cI cJ cO) (some ah) [eK qk qh qb ql K kc, eG cI qh hol, eF cO qb nb ab, eL ql LG] nb (fam cI ab as_ ad bB bS bT bn bds)))) (QTi r) (XT r) 2 12 (fun _ => False) := by
  refine vx_ofW (cc := cX4_coupon) (maxL := 5) (ret := (some .int)) (by decide) rfl ?_
  intro p e s m args below meth c s₁ Bd hml hte hv
  obtain ⟨rfl, ⟨⟨hZ, hP, hK⟩, hB⟩, hT⟩ := hv
  have hx := Bd.exec
  have hb := Bd.bytes
  have hr := Bd.returns
  have hts := atoms_spec (ws := wsX4_coupon) Bd.pre
  have hown : s.vm.findClass RX4 = some m.cls := findClass_of_methodNamed Bd.named
  have hlocks := Bd.notSynchronized
  have hl := lv_entry ([.ref qk, .int a0, .int a1, .int a2]) (n := 5) (Nat.le_of_ble_eq_true rfl)
  rw [lg_entry_eq]
  generalize (lg_sl ([.ref qk, .int a0, .int a1, .int a2]) ++ List.replicate (5 - (lg_sl ([.ref qk, .int a0, .int a1, .int a2])).length) Slot.unset).toArray = ls at hl ⊢
  have hl : lv_has ls 5 [(0, .ref qk), (1, .int a0), (2, .int a1), (3, .int a2)] := hl
  unfold f_X4_coupon at hf
  refine lv_aload_n hx hb dX4_coupon_0 rfl (lv_at hl 0 rfl) ?_
  refine lv_iload_n hx hb dX4_coupon_1 rfl (lv_at hl 1 rfl) ?_
  obtain ⟨v1, hv1, hf⟩ := exs hf
  refine xSr (ad := ab) (vx_runV (As := [.int a0]) (rest := []) ⟨hx, hb, hml, hown, hts⟩ (m_X4_bondNumbered l D cI cJ cO ah qk qh qb ql ab K kc hol LG nb a0 v1 hl0 hv1) (cwV 1 hts gX4_coupon_X4_bondNumbered rfl rfl rfl (by decide +kernel) ⟨(Nat.le_of_ble_eq_true rfl), (Nat.le_of_ble_eq_true rfl)⟩) ⟨pT_blind, va_recv hK hP (ci := 3) (q0 := 0) rfl rfl, fun U hU hW => ⟨rfl, pw_at hZ va_S.rf hP hK hU hW (Or.inr rfl) [0, 1, 2, 3] rfl, pX_at hT va_S.rf hU hW⟩⟩ rfl rfl hl.1 rfl (lv_room (Nat.le_of_ble_eq_true rfl)) dX4_coupon_2 ⟨(Nat.le_of_ble_eq_true rfl), (Nat.le_of_ble_eq_true rfl)⟩) (fun E ce q9 H1 locs1 hE hz9 hk9 hS9 hc9 hv9 hl9 => vx_widen (k := 2) (n := 12) (Nat.le_of_ble_eq_true rfl) (Nat.le_of_ble_eq_true rfl) (vx_out (fun x h => (hte x h).elim) hlocks hc9 hv9 hl9 (fun t ht _ => ⟨ex_r hf hE, by rw [ht]; exact hz9, fun q h3 _ => by rw [ht]; exact hk9 q h3⟩) (fun z hz => absurd hz (by rw [hS9]; exact List.not_mem_nil)) (Nat.le_refl _) (Nat.le_refl _))) (fun v2 ev2 => ?_)
  have hf := ex_l hf ev2
  have c3 : v2 < nb := lt_X4_bondNumbered hv1 ev2
  refine va_get (D := D) (ci := 0) (v := .ref (as_ v2)) (C := RX0) (T := TX0) (N := 9) hx hb hts inX4_coupon_X0 hown hK (hB v2 c3) 2 rfl rfl 0 (by decide) (hts (.fieldLink RX4 141 "BondDesk$Bond" "schedule" "LBondDesk$Schedule;") (by decide +kernel)) (fun _ h9 => h9) rfl dX4_coupon_5 ?_
  refine lv_astore (lv' := [(4, .ref (as_ v2)), (0, .ref qk), (1, .int a0), (2, .int a1), (3, .int a2)]) hx hb dX4_coupon_8 hl (by decide) rfl (fun ls hl => ?_)
  refine lv_iload_n hx hb dX4_coupon_10 rfl (lv_at hl 3 rfl) ?_
  refine lv_if_lt (tgt := 24) hx hb dX4_coupon_11 (by decide) (fun c4 => ?_) (fun c4 => ?_)
  · have hf := it hf c4
    obtain ⟨sa, hsa⟩ := hT.2.2.1 (174, "there is no such coupon date") (by decide +kernel)
    exact vx_throwS (names := ["java/lang/RuntimeException", "java/lang/Exception"]) (A := (fun _ => False)) hx hb hl0 hown (by decide) (by decide) (hts (.classLink RX4 166 "java/lang/IndexOutOfBoundsException") (by decide +kernel)) (hts (.initialized "java/lang/IndexOutOfBoundsException") (by decide +kernel)) hsa (vx_hat (fun w hw => hts w (atX4_coupon_170 w hw)) thr_ng170 (fun w hw => va_any (thr_ot w hw) (hT.2.2.2 w hw))) (by decide +kernel) hT.1 hT.2.1 va_S.rf (hl.1.trans hml.symm) dX4_coupon_24 dX4_coupon_27 dX4_coupon_28 dX4_coupon_30 dX4_coupon_33 (fun x h => (hte x h).elim) (Nat.le_of_ble_eq_true rfl) (Nat.le_of_ble_eq_true rfl) (Nat.le_of_ble_eq_true rfl) (Nat.le_of_ble_eq_true rfl) hlocks (fun t _ h1 h2 => ⟨(Option.some.inj hf).symm, h1, fun q h3 _ => h2 q h3⟩) (fun z hz => absurd hz List.not_mem_nil) (Nat.le_of_ble_eq_true rfl) (Nat.le_of_ble_eq_true rfl)
  · have hf := ie hf c4
    refine lv_iload_n hx hb dX4_coupon_14 rfl (lv_at hl 3 rfl) ?_
    refine lv_aload hx hb dX4_coupon_15 (lv_at hl 0 rfl) ?_
    refine va_get (D := D) (ci := 2) (v := .ref (ad v2)) (C := RX3) (T := TX3) (N := 9) hx hb hts inX4_coupon_X3 hown hK (hB v2 c3) 1 rfl rfl 6 (by decide) (hts (.fieldLink RX4 145 "BondDesk$Schedule" "dates" "[I") (by decide +kernel)) (fun _ h9 => h9) rfl dX4_coupon_17 ?_
    refine va_alen (v := nI (bn v2)) hx hb hK (hB v2 c3) 0 0 rfl rfl rfl dX4_coupon_20 ?_
    refine lv_icmp_lt (tgt := 34) hx hb dX4_coupon_21 (by decide) (fun c5 => ?_) (fun c5 => ?_)
    · have hf := it hf c5
      refine lv_iload_n hx hb dX4_coupon_34 rfl (lv_at hl 4 rfl) ?_
      by_cases c6 : a2 = 0
      · have hf := it hf c6
        refine lv_tableIn (off := 29) (tgt := 64) hx hb dX4_coupon_35 (by rw [c6]; decide) (by rw [c6]; decide) (by rw [c6]; rfl) (by decide) ?_
        refine lv_aload hx hb dX4_coupon_64 (lv_at hl 0 rfl) ?_
        refine va_get (D := D) (ci := 2) (v := .ref (ad v2)) (C := RX3) (T := TX3) (N := 9) hx hb hts inX4_coupon_X3 hown hK (hB v2 c3) 1 rfl rfl 6 (by decide) (hts (.fieldLink RX4 145 "BondDesk$Schedule" "dates" "[I") (by decide +kernel)) (fun _ h9 => h9) rfl dX4_coupon_66 ?_
        refine lv_iload_n hx hb dX4_coupon_69 rfl (lv_at hl 3 rfl) ?_
        obtain ⟨c7, hf⟩ := gd_s hf
        refine va_iald hx hb hK (hB v2 c3) 0 0 rfl rfl c7 dX4_coupon_70 ?_
        refine vx_ret ?_
        refine W.widen (k := 2) (n := 12) (Nat.le_of_ble_eq_true rfl) (Nat.le_of_ble_eq_true rfl) ?_
        exact W.iret hx hb hr (fun t ht _ => ⟨_, rfl, (Option.some.inj hf).symm, ht⟩) (fun q hq => absurd hq List.not_mem_nil) dX4_coupon_71
      have hf := ie hf c6
      by_cases c8 : a2 = 1
      · have hf := it hf c8
        refine lv_tableIn (off := 37) (tgt := 72) hx hb dX4_coupon_35 (by rw [c8]; decide) (by rw [c8]; decide) (by rw [c8]; rfl) (by decide) ?_
        refine lv_aload_n hx hb dX4_coupon_72 rfl (lv_at hl 1 rfl) ?_
        refine lv_aload hx hb dX4_coupon_73 (lv_at hl 0 rfl) ?_
        refine va_get (D := D) (ci := 2) (v := .ref (ad v2)) (C := RX3) (T := TX3) (N := 9) hx hb hts inX4_coupon_X3 hown hK (hB v2 c3) 1 rfl rfl 6 (by decide) (hts (.fieldLink RX4 145 "BondDesk$Schedule" "dates" "[I") (by decide +kernel)) (fun _ h9 => h9) rfl dX4_coupon_75 ?_
        refine lv_iload_n hx hb dX4_coupon_78 rfl (lv_at hl 3 rfl) ?_
        obtain ⟨c9, hf⟩ := gd_s hf
        refine va_iald hx hb hK (hB v2 c3) 0 0 rfl rfl c9 dX4_coupon_79 ?_
        obtain ⟨v10, hv10, hf⟩ := ob hf
        refine cSi (W.runV (As := [.int ((bds v2) a1.toNatClampNeg)]) (rest := []) ⟨hx, hb, hml, hown, hts⟩ (m_X4_nextWorkingDate l D cI cJ cO ah qk qh qb ql ab K kc hol LG nb ((bds v2) a1.toNatClampNeg) N v10 hv10) (cwV 1 hts gX4_coupon_X4_nextWorkingDate rfl rfl rfl (by decide +kernel) ⟨(Nat.le_of_ble_eq_true rfl), (Nat.le_of_ble_eq_true rfl)⟩) ⟨pw_blind, va_recv hK hP (ci := 3) (q0 := 0) rfl rfl, fun U hU hW => ⟨rfl, pw_at hZ va_S.rf hP hK hU hW (Or.inr rfl) [0, 1, 2, 3] rfl⟩⟩ rfl rfl hl.1 rfl (lv_room (Nat.le_of_ble_eq_true rfl)) dX4_coupon_80 ⟨(Nat.le_of_ble_eq_true rfl), (Nat.le_of_ble_eq_true rfl)⟩) ?_
        refine vx_ret ?_
        refine W.widen (k := 2) (n := 12) (Nat.le_of_ble_eq_true rfl) (Nat.le_of_ble_eq_true rfl) ?_
        exact W.iret hx hb hr (fun t ht _ => ⟨_, rfl, (Option.some.inj hf).symm, ht⟩) (fun q hq => absurd hq List.not_mem_nil) dX4_coupon_83
      have hf := ie hf c8
      by_cases c11 : a2 = 2
      · have hf := it hf c11
        refine lv_tableIn (off := 49) (tgt := 84) hx hb dX4_coupon_35 (by rw [c11]; decide) (by rw [c11]; decide) (by rw [c11]; rfl) (by decide) ?_
        refine lv_aload hx hb dX4_coupon_84 (lv_at hl 0 rfl) ?_
        refine lv_iload_n hx hb dX4_coupon_86 rfl (lv_at hl 3 rfl) ?_
        obtain ⟨v12, hv12, hf⟩ := ob hf
        refine cSi (W.runV (As := [.int a1]) (rest := []) ⟨hx, hb, hml, hown, hts⟩ (m_X3_beginOf l D cI cJ cO ah (as_ v2) (ad v2) (bS v2) (bT v2) (bn v2) (bds v2) a1 v12 hv12) (cwV 1 hts gX4_coupon_X3_beginOf rfl rfl rfl (by decide +kernel) ⟨(Nat.le_of_ble_eq_true rfl), (Nat.le_of_ble_eq_true rfl)⟩) ⟨pw_blind, va_recv hK (hB v2 c3) (ci := 2) (q0 := 1) rfl rfl, fun U hU hW => ⟨rfl, pw_at hZ va_S.rf (hB v2 c3) hK hU hW (Or.inr rfl) [0, 1] rfl⟩⟩ rfl rfl hl.1 rfl (lv_room (Nat.le_of_ble_eq_true rfl)) dX4_coupon_87 ⟨(Nat.le_of_ble_eq_true rfl), (Nat.le_of_ble_eq_true rfl)⟩) ?_
        refine vx_ret ?_
        refine W.widen (k := 2) (n := 12) (Nat.le_of_ble_eq_true rfl) (Nat.le_of_ble_eq_true rfl) ?_
        exact W.iret hx hb hr (fun t ht _ => ⟨_, rfl, (Option.some.inj hf).symm, ht⟩) (fun q hq => absurd hq List.not_mem_nil) dX4_coupon_90
      have hf := ie hf c11
      by_cases c13 : a2 = 3
      · have hf := it hf c13
        refine lv_tableIn (off := 56) (tgt := 91) hx hb dX4_coupon_35 (by rw [c13]; decide) (by rw [c13]; decide) (by rw [c13]; rfl) (by decide) ?_
        refine lv_aload hx hb dX4_coupon_91 (lv_at hl 0 rfl) ?_
        refine lv_iload_n hx hb dX4_coupon_93 rfl (lv_at hl 3 rfl) ?_
        refine lv_ldc2 hx hb hown (hts (.constantLong RX4 179 (100000)) (by decide +kernel)) dX4_coupon_94 ?_
        obtain ⟨v14, hv14, hf⟩ := ob hf
        refine cSl (W.runV (As := [.int a1, .long 100000]) (rest := []) ⟨hx, hb, hml, hown, hts⟩ (m_X3_couponFor l D cI cJ cO ah (as_ v2) (ad v2) (bS v2) (bT v2) (bn v2) (bds v2) a1 100000 v14 hv14) (cwV 2 hts gX4_coupon_X3_couponFor rfl rfl rfl (by decide +kernel) ⟨(Nat.le_of_ble_eq_true rfl), (Nat.le_of_ble_eq_true rfl)⟩) ⟨pw_blind, va_recv hK (hB v2 c3) (ci := 2) (q0 := 1) rfl rfl, fun U hU hW => ⟨rfl, pw_at hZ va_S.rf (hB v2 c3) hK hU hW (Or.inr rfl) [0, 1] rfl⟩⟩ rfl rfl hl.1 rfl (lv_room (Nat.le_of_ble_eq_true rfl)) dX4_coupon_97 ⟨(Nat.le_of_ble_eq_true rfl), (Nat.le_of_ble_eq_true rfl)⟩) ?_
        refine lv_l2i hx hb dX4_coupon_100 rfl ?_
        refine vx_ret ?_
        refine W.widen (k := 2) (n := 12) (Nat.le_of_ble_eq_true rfl) (Nat.le_of_ble_eq_true rfl) ?_
        exact W.iret hx hb hr (fun t ht _ => ⟨_, rfl, (Option.some.inj hf).symm, ht⟩) (fun q hq => absurd hq List.not_mem_nil) dX4_coupon_101
      have hf := ie hf c13
      have tc6 : ¬ a2.toInt = 0 := ne_ti c6
      have tc8 : ¬ a2.toInt = 1 := ne_ti c8
      have tc11 : ¬ a2.toInt = 2 := ne_ti c11
      have tc13 : ¬ a2.toInt = 3 := ne_ti c13
      refine lv_tableOut (tgt := 102) hx hb dX4_coupon_35 (by omega) (by decide) ?_
      obtain ⟨sa, hsa⟩ := hT.2.2.1 (185, "what is not 0 to 3") (by decide +kernel)
      exact vx_throwS (names := ["java/lang/RuntimeException", "java/lang/Exception"]) (A := (fun _ => False)) hx hb hl0 hown (by decide) (by decide) (hts (.classLink RX4 166 "java/lang/IndexOutOfBoundsException") (by decide +kernel)) (hts (.initialized "java/lang/IndexOutOfBoundsException") (by decide +kernel)) hsa (vx_hat (fun w hw => hts w (atX4_coupon_170 w hw)) thr_ng170 (fun w hw => va_any (thr_ot w hw) (hT.2.2.2 w hw))) (by decide +kernel) hT.1 hT.2.1 va_S.rf (hl.1.trans hml.symm) dX4_coupon_102 dX4_coupon_105 dX4_coupon_106 dX4_coupon_108 dX4_coupon_111 (fun x h => (hte x h).elim) (Nat.le_of_ble_eq_true rfl) (Nat.le_of_ble_eq_true rfl) (Nat.le_of_ble_eq_true rfl) (Nat.le_of_ble_eq_true rfl) hlocks (fun t _ h1 h2 => ⟨(Option.some.inj hf).symm, h1, fun q h3 _ => h2 q h3⟩) (fun z hz => absurd hz List.not_mem_nil) (Nat.le_of_ble_eq_true rfl) (Nat.le_of_ble_eq_true rfl)
    · have hf := ie hf c5
      obtain ⟨sa, hsa⟩ := hT.2.2.1 (174, "there is no such coupon date") (by decide +kernel)
      exact vx_throwS (names := ["java/lang/RuntimeException", "java/lang/Exception"]) (A := (fun _ => False)) hx hb hl0 hown (by decide) (by decide) (hts (.classLink RX4 166 "java/lang/IndexOutOfBoundsException") (by decide +kernel)) (hts (.initialized "java/lang/IndexOutOfBoundsException") (by decide +kernel)) hsa (vx_hat (fun w hw => hts w (atX4_coupon_170 w hw)) thr_ng170 (fun w hw => va_any (thr_ot w hw) (hT.2.2.2 w hw))) (by decide +kernel) hT.1 hT.2.1 va_S.rf (hl.1.trans hml.symm) dX4_coupon_24 dX4_coupon_27 dX4_coupon_28 dX4_coupon_30 dX4_coupon_33 (fun x h => (hte x h).elim) (Nat.le_of_ble_eq_true rfl) (Nat.le_of_ble_eq_true rfl) (Nat.le_of_ble_eq_true rfl) (Nat.le_of_ble_eq_true rfl) hlocks (fun t _ h1 h2 => ⟨(Option.some.inj hf).symm, h1, fun q h3 _ => h2 q h3⟩) (fun z hz => absurd hz List.not_mem_nil) (Nat.le_of_ble_eq_true rfl) (Nat.le_of_ble_eq_true rfl)
set_option maxHeartbeats 4000000 in
set_option maxRecDepth 100000 in
theorem m_X4_accrued (l : Launch) (D : va_G) (cI cJ cO : ClassId) (ah : Nat) (qk : Nat) (qh : Nat) (qb : Nat) (ql : Nat) (ab : Nat → Nat) (as_ : Nat → Nat) (ad : Nat → Nat) (K : Nat → Int32) (kc : Int64) (hol : Nat → Int32) (LG : Nat → Int64) (nb : Nat) (bB : Nat → Nat → Int32) (bS : Nat → Nat → Int32) (bT : Nat → Nat → Int64) (bn : Nat → Nat) (bds : Nat → Nat → Int32) (a0 : Int32) (a1 : Int32) (N : Nat) (r : Int32 ⊕ String) (hl0 : l.stackTraces = false) (hf : f_X4_accrued N nb bB bS bn bds a0 a1 = some r) : vx_Met l yX4_accrued wsX4_accrued ({ frames := 7, cells := 2, slots := 12, locals := 114 }) (va_Pc [.ref qk, .int a0, .int a1] (pT (pwB D (ty3 cI cJ cO) (some ah) [eK qk qh qb ql K kc, eG cI qh hol, eF cO qb nb ab, eL ql LG] nb (fam cI ab as_ ad bB bS bT bn bds)))) (QTi r) (XT r) 2 12 (fun _ => False) := by
  refine vx_ofW (cc := cX4_accrued) (maxL := 4) (ret := (some .int)) (by decide) rfl ?_
  intro p e s m args below meth c s₁ Bd hml hte hv
  obtain ⟨rfl, ⟨⟨hZ, hP, hK⟩, hB⟩, hT⟩ := hv
  have hx := Bd.exec
  have hb := Bd.bytes
  have hr := Bd.returns
  have hts := atoms_spec (ws := wsX4_accrued) Bd.pre
  have hown : s.vm.findClass RX4 = some m.cls := findClass_of_methodNamed Bd.named
  have hlocks := Bd.notSynchronized
  have hl := lv_entry ([.ref qk, .int a0, .int a1]) (n := 4) (Nat.le_of_ble_eq_true rfl)
  rw [lg_entry_eq]
  generalize (lg_sl ([.ref qk, .int a0, .int a1]) ++ List.replicate (4 - (lg_sl ([.ref qk, .int a0, .int a1])).length) Slot.unset).toArray = ls at hl ⊢
  have hl : lv_has ls 4 [(0, .ref qk), (1, .int a0), (2, .int a1)] := hl
  unfold f_X4_accrued at hf
  refine lv_aload_n hx hb dX4_accrued_0 rfl (lv_at hl 0 rfl) ?_
  refine lv_iload_n hx hb dX4_accrued_1 rfl (lv_at hl 1 rfl) ?_
  obtain ⟨v1, hv1, hf⟩ := exs hf
  refine xSr (ad := ab) (vx_runV (As := [.int a0]) (rest := []) ⟨hx, hb, hml, hown, hts⟩ (m_X4_bondNumbered l D cI cJ cO ah qk qh qb ql ab K kc hol LG nb a0 v1 hl0 hv1) (cwV 1 hts gX4_accrued_X4_bondNumbered rfl rfl rfl (by decide +kernel) ⟨(Nat.le_of_ble_eq_true rfl), (Nat.le_of_ble_eq_true rfl)⟩) ⟨pT_blind, va_recv hK hP (ci := 3) (q0 := 0) rfl rfl, fun U hU hW => ⟨rfl, pw_at hZ va_S.rf hP hK hU hW (Or.inr rfl) [0, 1, 2, 3] rfl, pX_at hT va_S.rf hU hW⟩⟩ rfl rfl hl.1 rfl (lv_room (Nat.le_of_ble_eq_true rfl)) dX4_accrued_2 ⟨(Nat.le_of_ble_eq_true rfl), (Nat.le_of_ble_eq_true rfl)⟩) (fun E ce q9 H1 locs1 hE hz9 hk9 hS9 hc9 hv9 hl9 => vx_widen (k := 2) (n := 12) (Nat.le_of_ble_eq_true rfl) (Nat.le_of_ble_eq_true rfl) (vx_out (fun x h => (hte x h).elim) hlocks hc9 hv9 hl9 (fun t ht _ => ⟨ex_r hf hE, by rw [ht]; exact hz9, fun q h3 _ => by rw [ht]; exact hk9 q h3⟩) (fun z hz => absurd hz (by rw [hS9]; exact List.not_mem_nil)) (Nat.le_refl _) (Nat.le_refl _))) (fun v2 ev2 => ?_)
  have hf := ex_l hf ev2
  have c3 : v2 < nb := lt_X4_bondNumbered hv1 ev2
  refine lv_astore_n (lv' := [(3, .ref (ab v2)), (0, .ref qk), (1, .int a0), (2, .int a1)]) hx hb dX4_accrued_5 rfl hl (by decide) rfl (fun ls hl => ?_)
  refine lv_iload_n hx hb dX4_accrued_6 rfl (lv_at hl 3 rfl) ?_
  obtain ⟨v4, hv4, hf⟩ := exs hf
  refine xSv (vx_runS (As := [.int a1]) (rest := []) ⟨hx, hb, hml, hown, hts⟩ (m_X4_requireDate l D cI cJ cO ah a1 v4 hl0 hv4) (va_cwS 1 hts gX4_accrued_X4_requireDate rfl rfl rfl (by decide +kernel) ⟨(Nat.le_of_ble_eq_true rfl), (Nat.le_of_ble_eq_true rfl)⟩) ⟨pT_blind, fun U hU hW => ⟨rfl, pw_at hZ va_S.rf hP hK hU hW (Or.inr rfl) [] rfl, pX_at hT va_S.rf hU hW⟩⟩ rfl rfl hl.1 rfl (lv_room (Nat.le_of_ble_eq_true rfl)) dX4_accrued_7 ⟨(Nat.le_of_ble_eq_true rfl), (Nat.le_of_ble_eq_true rfl)⟩) (fun E ce q9 H1 locs1 hE hz9 hk9 hS9 hc9 hv9 hl9 => vx_widen (k := 2) (n := 12) (Nat.le_of_ble_eq_true rfl) (Nat.le_of_ble_eq_true rfl) (vx_out (fun x h => (hte x h).elim) hlocks hc9 hv9 hl9 (fun t ht _ => ⟨ex_r hf hE, by rw [ht]; exact hz9, fun q h3 _ => by rw [ht]; exact hk9 q h3⟩) (fun z hz => absurd hz (by rw [hS9]; exact List.not_mem_nil)) (Nat.le_refl _) (Nat.le_refl _))) (fun v5 ev5 => ?_)
  have hf := ex_l hf ev5
  refine lv_aload_n hx hb dX4_accrued_10 rfl (lv_at hl 0 rfl) ?_
  refine lv_iload_n hx hb dX4_accrued_11 rfl (lv_at hl 3 rfl) ?_
  obtain ⟨v6, hv6, hf⟩ := ob hf
  refine cSl (W.runV (As := [.int a1]) (rest := []) ⟨hx, hb, hml, hown, hts⟩ (m_X0_accruedOn l D cI cJ cO ah (ab v2) (as_ v2) (ad v2) (bB v2) (bS v2) (bT v2) (bn v2) (bds v2) a1 N v6 hv6) (cwV 1 hts gX4_accrued_X0_accruedOn rfl rfl rfl (by decide +kernel) ⟨(Nat.le_of_ble_eq_true rfl), (Nat.le_of_ble_eq_true rfl)⟩) ⟨pw_blind, va_recv hK (hB v2 c3) (ci := 0) (q0 := 2) rfl rfl, fun U hU hW => ⟨rfl, pw_at hZ va_S.rf (hB v2 c3) hK hU hW (Or.inr rfl) [0, 1, 2] rfl⟩⟩ rfl rfl hl.1 rfl (lv_room (Nat.le_of_ble_eq_true rfl)) dX4_accrued_12 ⟨(Nat.le_of_ble_eq_true rfl), (Nat.le_of_ble_eq_true rfl)⟩) ?_
  refine lv_l2i hx hb dX4_accrued_15 rfl ?_
  refine vx_ret ?_
  refine W.widen (k := 2) (n := 12) (Nat.le_of_ble_eq_true rfl) (Nat.le_of_ble_eq_true rfl) ?_
  exact W.iret hx hb hr (fun t ht _ => ⟨_, rfl, (Option.some.inj hf).symm, ht⟩) (fun q hq => absurd hq List.not_mem_nil) dX4_accrued_16
theorem inX4_worth_X0 : ∀ w ∈ wsX00, w ∈ wsX4_worth := by decide +kernel
theorem inX4_worth_X4 : ∀ w ∈ wsX40, w ∈ wsX4_worth := by decide +kernel
set_option maxHeartbeats 4000000 in
set_option maxRecDepth 100000 in
theorem m_X4_worth (l : Launch) (D : va_G) (cI cJ cO : ClassId) (ah : Nat) (qk : Nat) (qh : Nat) (qb : Nat) (ql : Nat) (ab : Nat → Nat) (as_ : Nat → Nat) (ad : Nat → Nat) (K : Nat → Int32) (kc : Int64) (hol : Nat → Int32) (LG : Nat → Int64) (nb : Nat) (bB : Nat → Nat → Int32) (bS : Nat → Nat → Int32) (bT : Nat → Nat → Int64) (bn : Nat → Nat) (bds : Nat → Nat → Int32) (a0 : Int32) (a1 : Int32) (N : Nat) (r : Int32 ⊕ String) (hl0 : l.stackTraces = false) (hf : f_X4_worth N K nb bB bS bT bn bds a0 a1 = some r) : vx_Met l yX4_worth wsX4_worth ({ frames := 7, cells := 2, slots := 12, locals := 104 }) (va_Pc [.ref qk, .int a0, .int a1] (pT (pwB D (ty3 cI cJ cO) (some ah) [eK qk qh qb ql K kc, eG cI qh hol, eF cO qb nb ab, eL ql LG] nb (fam cI ab as_ ad bB bS bT bn bds)))) (QTi r) (XT r) 2 12 (fun _ => False) := by
  refine vx_ofW (cc := cX4_worth) (maxL := 4) (ret := (some .int)) (by decide) rfl ?_
  intro p e s m args below meth c s₁ Bd hml hte hv
  obtain ⟨rfl, ⟨⟨hZ, hP, hK⟩, hB⟩, hT⟩ := hv
  have hx := Bd.exec
  have hb := Bd.bytes
  have hr := Bd.returns
  have hts := atoms_spec (ws := wsX4_worth) Bd.pre
  have hown : s.vm.findClass RX4 = some m.cls := findClass_of_methodNamed Bd.named
  have hlocks := Bd.notSynchronized
  have hl := lv_entry ([.ref qk, .int a0, .int a1]) (n := 4) (Nat.le_of_ble_eq_true rfl)
  rw [lg_entry_eq]
  generalize (lg_sl ([.ref qk, .int a0, .int a1]) ++ List.replicate (4 - (lg_sl ([.ref qk, .int a0, .int a1])).length) Slot.unset).toArray = ls at hl ⊢
  have hl : lv_has ls 4 [(0, .ref qk), (1, .int a0), (2, .int a1)] := hl
  unfold f_X4_worth at hf
  refine lv_aload_n hx hb dX4_worth_0 rfl (lv_at hl 0 rfl) ?_
  refine lv_iload_n hx hb dX4_worth_1 rfl (lv_at hl 1 rfl) ?_
  obtain ⟨v1, hv1, hf⟩ := exs hf
  refine xSr (ad := ab) (vx_runV (As := [.int a0]) (rest := []) ⟨hx, hb, hml, hown, hts⟩ (m_X4_bondNumbered l D cI cJ cO ah qk qh qb ql ab K kc hol LG nb a0 v1 hl0 hv1) (cwV 1 hts gX4_worth_X4_bondNumbered rfl rfl rfl (by decide +kernel) ⟨(Nat.le_of_ble_eq_true rfl), (Nat.le_of_ble_eq_true rfl)⟩) ⟨pT_blind, va_recv hK hP (ci := 3) (q0 := 0) rfl rfl, fun U hU hW => ⟨rfl, pw_at hZ va_S.rf hP hK hU hW (Or.inr rfl) [0, 1, 2, 3] rfl, pX_at hT va_S.rf hU hW⟩⟩ rfl rfl hl.1 rfl (lv_room (Nat.le_of_ble_eq_true rfl)) dX4_worth_2 ⟨(Nat.le_of_ble_eq_true rfl), (Nat.le_of_ble_eq_true rfl)⟩) (fun E ce q9 H1 locs1 hE hz9 hk9 hS9 hc9 hv9 hl9 => vx_widen (k := 2) (n := 12) (Nat.le_of_ble_eq_true rfl) (Nat.le_of_ble_eq_true rfl) (vx_out (fun x h => (hte x h).elim) hlocks hc9 hv9 hl9 (fun t ht _ => ⟨ex_r hf hE, by rw [ht]; exact hz9, fun q h3 _ => by rw [ht]; exact hk9 q h3⟩) (fun z hz => absurd hz (by rw [hS9]; exact List.not_mem_nil)) (Nat.le_refl _) (Nat.le_refl _))) (fun v2 ev2 => ?_)
  have hf := ex_l hf ev2
  have c3 : v2 < nb := lt_X4_bondNumbered hv1 ev2
  refine lv_astore_n (lv' := [(3, .ref (ab v2)), (0, .ref qk), (1, .int a0), (2, .int a1)]) hx hb dX4_worth_5 rfl hl (by decide) rfl (fun ls hl => ?_)
  refine lv_iload_n hx hb dX4_worth_6 rfl (lv_at hl 3 rfl) ?_
  obtain ⟨v4, hv4, hf⟩ := exs hf
  refine xSv (vx_runS (As := [.int a1]) (rest := []) ⟨hx, hb, hml, hown, hts⟩ (m_X4_requireYield l D cI cJ cO ah a1 v4 hl0 hv4) (va_cwS 1 hts gX4_worth_X4_requireYield rfl rfl rfl (by decide +kernel) ⟨(Nat.le_of_ble_eq_true rfl), (Nat.le_of_ble_eq_true rfl)⟩) ⟨pT_blind, fun U hU hW => ⟨rfl, pw_at hZ va_S.rf hP hK hU hW (Or.inr rfl) [] rfl, pX_at hT va_S.rf hU hW⟩⟩ rfl rfl hl.1 rfl (lv_room (Nat.le_of_ble_eq_true rfl)) dX4_worth_7 ⟨(Nat.le_of_ble_eq_true rfl), (Nat.le_of_ble_eq_true rfl)⟩) (fun E ce q9 H1 locs1 hE hz9 hk9 hS9 hc9 hv9 hl9 => vx_widen (k := 2) (n := 12) (Nat.le_of_ble_eq_true rfl) (Nat.le_of_ble_eq_true rfl) (vx_out (fun x h => (hte x h).elim) hlocks hc9 hv9 hl9 (fun t ht _ => ⟨ex_r hf hE, by rw [ht]; exact hz9, fun q h3 _ => by rw [ht]; exact hk9 q h3⟩) (fun z hz => absurd hz (by rw [hS9]; exact List.not_mem_nil)) (Nat.le_refl _) (Nat.le_refl _))) (fun v5 ev5 => ?_)
  have hf := ex_l hf ev5
  refine lv_aload_n hx hb dX4_worth_10 rfl (lv_at hl 0 rfl) ?_
  refine lv_aload_n hx hb dX4_worth_11 rfl (lv_at hl 1 rfl) ?_
  refine va_get (D := D) (ci := 3) (v := .int (K 5)) (C := RX4) (T := TX4) (N := 8) hx hb hts inX4_worth_X4 hown hK hP 0 rfl rfl 5 (by decide) (hts (.fieldLink RX4 27 "BondDesk" "today" "I") (by decide +kernel)) (fun _ h9 => h9) rfl dX4_worth_12 ?_
  refine lv_aload_n hx hb dX4_worth_15 rfl (lv_at hl 0 rfl) ?_
  refine va_get (D := D) (ci := 0) (v := .int ((bB v2) 1)) (C := RX0) (T := TX0) (N := 9) hx hb hts inX4_worth_X0 hown hK (hB v2 c3) 2 rfl rfl 1 (by decide) (hts (.fieldLink RX4 212 "BondDesk$Bond" "factor" "I") (by decide +kernel)) (fun _ h9 => h9) rfl dX4_worth_16 ?_
  refine lv_iload_n hx hb dX4_worth_19 rfl (lv_at hl 3 rfl) ?_
  obtain ⟨v6, hv6, hf⟩ := ob hf
  refine cSl (W.runV (As := [.int (K 5), .int ((bB v2) 1), .int a1]) (rest := []) ⟨hx, hb, hml, hown, hts⟩ (m_X0_worthAt l D cI cJ cO ah (ab v2) (as_ v2) (ad v2) (bB v2) (bS v2) (bT v2) (bn v2) (bds v2) (K 5) ((bB v2) 1) a1 N v6 hv6) (cwV 3 hts gX4_worth_X0_worthAt rfl rfl rfl (by decide +kernel) ⟨(Nat.le_of_ble_eq_true rfl), (Nat.le_of_ble_eq_true rfl)⟩) ⟨pw_blind, va_recv hK (hB v2 c3) (ci := 0) (q0 := 2) rfl rfl, fun U hU hW => ⟨rfl, pw_at hZ va_S.rf (hB v2 c3) hK hU hW (Or.inr rfl) [0, 1, 2] rfl⟩⟩ rfl rfl hl.1 rfl (lv_room (Nat.le_of_ble_eq_true rfl)) dX4_worth_20 ⟨(Nat.le_of_ble_eq_true rfl), (Nat.le_of_ble_eq_true rfl)⟩) ?_
  refine lv_l2i hx hb dX4_worth_23 rfl ?_
  refine vx_ret ?_
  refine W.widen (k := 2) (n := 12) (Nat.le_of_ble_eq_true rfl) (Nat.le_of_ble_eq_true rfl) ?_
  exact W.iret hx hb hr (fun t ht _ => ⟨_, rfl, (Option.some.inj hf).symm, ht⟩) (fun q hq => absurd hq List.not_mem_nil) dX4_worth_24
theorem inX4_yields_X4 : ∀ w ∈ wsX40, w ∈ wsX4_yields := by decide +kernel
set_option maxHeartbeats 4000000 in
set_option maxRecDepth 100000 in
theorem m_X4_yields (l : Launch) (D : va_G) (cI cJ cO : ClassId) (ah : Nat) (qk : Nat) (qh : Nat) (qb : Nat) (ql : Nat) (ab : Nat → Nat) (as_ : Nat → Nat) (ad : Nat → Nat) (K : Nat → Int32) (kc : Int64) (hol : Nat → Int32) (LG : Nat → Int64) (nb : Nat) (bB : Nat → Nat → Int32) (bS : Nat → Nat → Int32) (bT : Nat → Nat → Int64) (bn : Nat → Nat) (bds : Nat → Nat → Int32) (a0 : Int32) (a1 : Int32) (N : Nat) (r : Int32 ⊕ String) (hl0 : l.stackTraces = false) (hf : f_X4_yields N K nb bB bS bT bn bds a0 a1 = some r) : vx_Met l yX4_yields wsX4_yields ({ frames := 7, cells := 2, slots := 12, locals := 140 }) (va_Pc [.ref qk, .int a0, .int a1] (pT (pwB D (ty3 cI cJ cO) (some ah) [eK qk qh qb ql K kc, eG cI qh hol, eF cO qb nb ab, eL ql LG] nb (fam cI ab as_ ad bB bS bT bn bds)))) (QTi r) (XT r) 2 12 (fun _ => False) := by
  refine vx_ofW (cc := cX4_yields) (maxL := 4) (ret := (some .int)) (by decide) rfl ?_
  intro p e s m args below meth c s₁ Bd hml hte hv
  obtain ⟨rfl, ⟨⟨hZ, hP, hK⟩, hB⟩, hT⟩ := hv
  have hx := Bd.exec
  have hb := Bd.bytes
  have hr := Bd.returns
  have hts := atoms_spec (ws := wsX4_yields) Bd.pre
  have hown : s.vm.findClass RX4 = some m.cls := findClass_of_methodNamed Bd.named
  have hlocks := Bd.notSynchronized
  have hl := lv_entry ([.ref qk, .int a0, .int a1]) (n := 4) (Nat.le_of_ble_eq_true rfl)
  rw [lg_entry_eq]
  generalize (lg_sl ([.ref qk, .int a0, .int a1]) ++ List.replicate (4 - (lg_sl ([.ref qk, .int a0, .int a1])).length) Slot.unset).toArray = ls at hl ⊢
  have hl : lv_has ls 4 [(0, .ref qk), (1, .int a0), (2, .int a1)] := hl
  unfold f_X4_yields at hf
  refine lv_aload_n hx hb dX4_yields_0 rfl (lv_at hl 0 rfl) ?_
  refine lv_iload_n hx hb dX4_yields_1 rfl (lv_at hl 1 rfl) ?_
  obtain ⟨v1, hv1, hf⟩ := exs hf
  refine xSr (ad := ab) (vx_runV (As := [.int a0]) (rest := []) ⟨hx, hb, hml, hown, hts⟩ (m_X4_bondNumbered l D cI cJ cO ah qk qh qb ql ab K kc hol LG nb a0 v1 hl0 hv1) (cwV 1 hts gX4_yields_X4_bondNumbered rfl rfl rfl (by decide +kernel) ⟨(Nat.le_of_ble_eq_true rfl), (Nat.le_of_ble_eq_true rfl)⟩) ⟨pT_blind, va_recv hK hP (ci := 3) (q0 := 0) rfl rfl, fun U hU hW => ⟨rfl, pw_at hZ va_S.rf hP hK hU hW (Or.inr rfl) [0, 1, 2, 3] rfl, pX_at hT va_S.rf hU hW⟩⟩ rfl rfl hl.1 rfl (lv_room (Nat.le_of_ble_eq_true rfl)) dX4_yields_2 ⟨(Nat.le_of_ble_eq_true rfl), (Nat.le_of_ble_eq_true rfl)⟩) (fun E ce q9 H1 locs1 hE hz9 hk9 hS9 hc9 hv9 hl9 => vx_widen (k := 2) (n := 12) (Nat.le_of_ble_eq_true rfl) (Nat.le_of_ble_eq_true rfl) (vx_out (fun x h => (hte x h).elim) hlocks hc9 hv9 hl9 (fun t ht _ => ⟨ex_r hf hE, by rw [ht]; exact hz9, fun q h3 _ => by rw [ht]; exact hk9 q h3⟩) (fun z hz => absurd hz (by rw [hS9]; exact List.not_mem_nil)) (Nat.le_refl _) (Nat.le_refl _))) (fun v2 ev2 => ?_)
  have hf := ex_l hf ev2
  have c3 : v2 < nb := lt_X4_bondNumbered hv1 ev2
  refine lv_astore_n (lv' := [(3, .ref (ab v2)), (0, .ref qk), (1, .int a0), (2, .int a1)]) hx hb dX4_yields_5 rfl hl (by decide) rfl (fun ls hl => ?_)
  refine lv_iload_n hx hb dX4_yields_6 rfl (lv_at hl 3 rfl) ?_
  obtain ⟨v4, hv4, hf⟩ := exs hf
  refine xSv (vx_runS (As := [.int a1]) (rest := []) ⟨hx, hb, hml, hown, hts⟩ (m_X4_requirePrice l D cI cJ cO ah a1 v4 hl0 hv4) (va_cwS 1 hts gX4_yields_X4_requirePrice rfl rfl rfl (by decide +kernel) ⟨(Nat.le_of_ble_eq_true rfl), (Nat.le_of_ble_eq_true rfl)⟩) ⟨pT_blind, fun U hU hW => ⟨rfl, pw_at hZ va_S.rf hP hK hU hW (Or.inr rfl) [] rfl, pX_at hT va_S.rf hU hW⟩⟩ rfl rfl hl.1 rfl (lv_room (Nat.le_of_ble_eq_true rfl)) dX4_yields_7 ⟨(Nat.le_of_ble_eq_true rfl), (Nat.le_of_ble_eq_true rfl)⟩) (fun E ce q9 H1 locs1 hE hz9 hk9 hS9 hc9 hv9 hl9 => vx_widen (k := 2) (n := 12) (Nat.le_of_ble_eq_true rfl) (Nat.le_of_ble_eq_true rfl) (vx_out (fun x h => (hte x h).elim) hlocks hc9 hv9 hl9 (fun t ht _ => ⟨ex_r hf hE, by rw [ht]; exact hz9, fun q h3 _ => by rw [ht]; exact hk9 q h3⟩) (fun z hz => absurd hz (by rw [hS9]; exact List.not_mem_nil)) (Nat.le_refl _) (Nat.le_refl _))) (fun v5 ev5 => ?_)
  have hf := ex_l hf ev5
  refine lv_aload_n hx hb dX4_yields_10 rfl (lv_at hl 0 rfl) ?_
  refine lv_aload_n hx hb dX4_yields_11 rfl (lv_at hl 1 rfl) ?_
  refine va_get (D := D) (ci := 3) (v := .int (K 5)) (C := RX4) (T := TX4) (N := 8) hx hb hts inX4_yields_X4 hown hK hP 0 rfl rfl 5 (by decide) (hts (.fieldLink RX4 27 "BondDesk" "today" "I") (by decide +kernel)) (fun _ h9 => h9) rfl dX4_yields_12 ?_
  refine lv_iload_n hx hb dX4_yields_15 rfl (lv_at hl 3 rfl) ?_
  obtain ⟨v6, hv6, hf⟩ := ob hf
  refine cSi (W.runV (As := [.int (K 5), .int a1]) (rest := []) ⟨hx, hb, hml, hown, hts⟩ (m_X0_yieldAt l D cI cJ cO ah (ab v2) (as_ v2) (ad v2) (bB v2) (bS v2) (bT v2) (bn v2) (bds v2) (K 5) a1 N v6 hv6) (cwV 2 hts gX4_yields_X0_yieldAt rfl rfl rfl (by decide +kernel) ⟨(Nat.le_of_ble_eq_true rfl), (Nat.le_of_ble_eq_true rfl)⟩) ⟨pw_blind, va_recv hK (hB v2 c3) (ci := 0) (q0 := 2) rfl rfl, fun U hU hW => ⟨rfl, pw_at hZ va_S.rf (hB v2 c3) hK hU hW (Or.inr rfl) [0, 1, 2] rfl⟩⟩ rfl rfl hl.1 rfl (lv_room (Nat.le_of_ble_eq_true rfl)) dX4_yields_16 ⟨(Nat.le_of_ble_eq_true rfl), (Nat.le_of_ble_eq_true rfl)⟩) ?_
  refine vx_ret ?_
  refine W.widen (k := 2) (n := 12) (Nat.le_of_ble_eq_true rfl) (Nat.le_of_ble_eq_true rfl) ?_
  exact W.iret hx hb hr (fun t ht _ => ⟨_, rfl, (Option.some.inj hf).symm, ht⟩) (fun q hq => absurd hq List.not_mem_nil) dX4_yields_19
theorem inX4_moves_X0 : ∀ w ∈ wsX00, w ∈ wsX4_moves := by decide +kernel
theorem inX4_moves_X4 : ∀ w ∈ wsX40, w ∈ wsX4_moves := by decide +kernel
set_option maxHeartbeats 4000000 in
set_option maxRecDepth 100000 in
theorem m_X4_moves (l : Launch) (D : va_G) (cI cJ cO : ClassId) (ah : Nat) (qk : Nat) (qh : Nat) (qb : Nat) (ql : Nat) (ab : Nat → Nat) (as_ : Nat → Nat) (ad : Nat → Nat) (K : Nat → Int32) (kc : Int64) (hol : Nat → Int32) (LG : Nat → Int64) (nb : Nat) (bB : Nat → Nat → Int32) (bS : Nat → Nat → Int32) (bT : Nat → Nat → Int64) (bn : Nat → Nat) (bds : Nat → Nat → Int32) (a0 : Int32) (a1 : Int32) (N : Nat) (r : Int32 ⊕ String) (hl0 : l.stackTraces = false) (hf : f_X4_moves N K nb bB bS bT bn bds a0 a1 = some r) : vx_Met l yX4_moves wsX4_moves ({ frames := 7, cells := 2, slots := 12, locals := 104 }) (va_Pc [.ref qk, .int a0, .int a1] (pT (pwB D (ty3 cI cJ cO) (some ah) [eK qk qh qb ql K kc, eG cI qh hol, eF cO qb nb ab, eL ql LG] nb (fam cI ab as_ ad bB bS bT bn bds)))) (QTi r) (XT r) 2 12 (fun _ => False) := by
  refine vx_ofW (cc := cX4_moves) (maxL := 4) (ret := (some .int)) (by decide) rfl ?_
  intro p e s m args below meth c s₁ Bd hml hte hv
  obtain ⟨rfl, ⟨⟨hZ, hP, hK⟩, hB⟩, hT⟩ := hv
  have hx := Bd.exec
  have hb := Bd.bytes
  have hr := Bd.returns
  have hts := atoms_spec (ws := wsX4_moves) Bd.pre
  have hown : s.vm.findClass RX4 = some m.cls := findClass_of_methodNamed Bd.named
  have hlocks := Bd.notSynchronized
  have hl := lv_entry ([.ref qk, .int a0, .int a1]) (n := 4) (Nat.le_of_ble_eq_true rfl)
  rw [lg_entry_eq]
  generalize (lg_sl ([.ref qk, .int a0, .int a1]) ++ List.replicate (4 - (lg_sl ([.ref qk, .int a0, .int a1])).length) Slot.unset).toArray = ls at hl ⊢
  have hl : lv_has ls 4 [(0, .ref qk), (1, .int a0), (2, .int a1)] := hl
  unfold f_X4_moves at hf
  refine lv_aload_n hx hb dX4_moves_0 rfl (lv_at hl 0 rfl) ?_
  refine lv_iload_n hx hb dX4_moves_1 rfl (lv_at hl 1 rfl) ?_
  obtain ⟨v1, hv1, hf⟩ := exs hf
  refine xSr (ad := ab) (vx_runV (As := [.int a0]) (rest := []) ⟨hx, hb, hml, hown, hts⟩ (m_X4_bondNumbered l D cI cJ cO ah qk qh qb ql ab K kc hol LG nb a0 v1 hl0 hv1) (cwV 1 hts gX4_moves_X4_bondNumbered rfl rfl rfl (by decide +kernel) ⟨(Nat.le_of_ble_eq_true rfl), (Nat.le_of_ble_eq_true rfl)⟩) ⟨pT_blind, va_recv hK hP (ci := 3) (q0 := 0) rfl rfl, fun U hU hW => ⟨rfl, pw_at hZ va_S.rf hP hK hU hW (Or.inr rfl) [0, 1, 2, 3] rfl, pX_at hT va_S.rf hU hW⟩⟩ rfl rfl hl.1 rfl (lv_room (Nat.le_of_ble_eq_true rfl)) dX4_moves_2 ⟨(Nat.le_of_ble_eq_true rfl), (Nat.le_of_ble_eq_true rfl)⟩) (fun E ce q9 H1 locs1 hE hz9 hk9 hS9 hc9 hv9 hl9 => vx_widen (k := 2) (n := 12) (Nat.le_of_ble_eq_true rfl) (Nat.le_of_ble_eq_true rfl) (vx_out (fun x h => (hte x h).elim) hlocks hc9 hv9 hl9 (fun t ht _ => ⟨ex_r hf hE, by rw [ht]; exact hz9, fun q h3 _ => by rw [ht]; exact hk9 q h3⟩) (fun z hz => absurd hz (by rw [hS9]; exact List.not_mem_nil)) (Nat.le_refl _) (Nat.le_refl _))) (fun v2 ev2 => ?_)
  have hf := ex_l hf ev2
  have c3 : v2 < nb := lt_X4_bondNumbered hv1 ev2
  refine lv_astore_n (lv' := [(3, .ref (ab v2)), (0, .ref qk), (1, .int a0), (2, .int a1)]) hx hb dX4_moves_5 rfl hl (by decide) rfl (fun ls hl => ?_)
  refine lv_iload_n hx hb dX4_moves_6 rfl (lv_at hl 3 rfl) ?_
  obtain ⟨v4, hv4, hf⟩ := exs hf
  refine xSv (vx_runS (As := [.int a1]) (rest := []) ⟨hx, hb, hml, hown, hts⟩ (m_X4_requireYield l D cI cJ cO ah a1 v4 hl0 hv4) (va_cwS 1 hts gX4_moves_X4_requireYield rfl rfl rfl (by decide +kernel) ⟨(Nat.le_of_ble_eq_true rfl), (Nat.le_of_ble_eq_true rfl)⟩) ⟨pT_blind, fun U hU hW => ⟨rfl, pw_at hZ va_S.rf hP hK hU hW (Or.inr rfl) [] rfl, pX_at hT va_S.rf hU hW⟩⟩ rfl rfl hl.1 rfl (lv_room (Nat.le_of_ble_eq_true rfl)) dX4_moves_7 ⟨(Nat.le_of_ble_eq_true rfl), (Nat.le_of_ble_eq_true rfl)⟩) (fun E ce q9 H1 locs1 hE hz9 hk9 hS9 hc9 hv9 hl9 => vx_widen (k := 2) (n := 12) (Nat.le_of_ble_eq_true rfl) (Nat.le_of_ble_eq_true rfl) (vx_out (fun x h => (hte x h).elim) hlocks hc9 hv9 hl9 (fun t ht _ => ⟨ex_r hf hE, by rw [ht]; exact hz9, fun q h3 _ => by rw [ht]; exact hk9 q h3⟩) (fun z hz => absurd hz (by rw [hS9]; exact List.not_mem_nil)) (Nat.le_refl _) (Nat.le_refl _))) (fun v5 ev5 => ?_)
  have hf := ex_l hf ev5
  refine lv_aload_n hx hb dX4_moves_10 rfl (lv_at hl 0 rfl) ?_
  refine lv_aload_n hx hb dX4_moves_11 rfl (lv_at hl 1 rfl) ?_
  refine va_get (D := D) (ci := 3) (v := .int (K 5)) (C := RX4) (T := TX4) (N := 8) hx hb hts inX4_moves_X4 hown hK hP 0 rfl rfl 5 (by decide) (hts (.fieldLink RX4 27 "BondDesk" "today" "I") (by decide +kernel)) (fun _ h9 => h9) rfl dX4_moves_12 ?_
  refine lv_aload_n hx hb dX4_moves_15 rfl (lv_at hl 0 rfl) ?_
  refine va_get (D := D) (ci := 0) (v := .int ((bB v2) 1)) (C := RX0) (T := TX0) (N := 9) hx hb hts inX4_moves_X0 hown hK (hB v2 c3) 2 rfl rfl 1 (by decide) (hts (.fieldLink RX4 212 "BondDesk$Bond" "factor" "I") (by decide +kernel)) (fun _ h9 => h9) rfl dX4_moves_16 ?_
  refine lv_iload_n hx hb dX4_moves_19 rfl (lv_at hl 3 rfl) ?_
  obtain ⟨v6, hv6, hf⟩ := ob hf
  refine cSl (W.runV (As := [.int (K 5), .int ((bB v2) 1), .int a1]) (rest := []) ⟨hx, hb, hml, hown, hts⟩ (m_X0_worthAt l D cI cJ cO ah (ab v2) (as_ v2) (ad v2) (bB v2) (bS v2) (bT v2) (bn v2) (bds v2) (K 5) ((bB v2) 1) a1 N v6 hv6) (cwV 3 hts gX4_moves_X0_worthAt rfl rfl rfl (by decide +kernel) ⟨(Nat.le_of_ble_eq_true rfl), (Nat.le_of_ble_eq_true rfl)⟩) ⟨pw_blind, va_recv hK (hB v2 c3) (ci := 0) (q0 := 2) rfl rfl, fun U hU hW => ⟨rfl, pw_at hZ va_S.rf (hB v2 c3) hK hU hW (Or.inr rfl) [0, 1, 2] rfl⟩⟩ rfl rfl hl.1 rfl (lv_room (Nat.le_of_ble_eq_true rfl)) dX4_moves_20 ⟨(Nat.le_of_ble_eq_true rfl), (Nat.le_of_ble_eq_true rfl)⟩) ?_
  refine lv_aload_n hx hb dX4_moves_23 rfl (lv_at hl 0 rfl) ?_
  refine lv_aload_n hx hb dX4_moves_24 rfl (lv_at hl 1 rfl) ?_
  refine va_get (D := D) (ci := 3) (v := .int (K 5)) (C := RX4) (T := TX4) (N := 8) hx hb hts inX4_moves_X4 hown hK hP 0 rfl rfl 5 (by decide) (hts (.fieldLink RX4 27 "BondDesk" "today" "I") (by decide +kernel)) (fun _ h9 => h9) rfl dX4_moves_25 ?_
  refine lv_aload_n hx hb dX4_moves_28 rfl (lv_at hl 0 rfl) ?_
  refine va_get (D := D) (ci := 0) (v := .int ((bB v2) 1)) (C := RX0) (T := TX0) (N := 9) hx hb hts inX4_moves_X0 hown hK (hB v2 c3) 2 rfl rfl 1 (by decide) (hts (.fieldLink RX4 212 "BondDesk$Bond" "factor" "I") (by decide +kernel)) (fun _ h9 => h9) rfl dX4_moves_29 ?_
  refine lv_iload_n hx hb dX4_moves_32 rfl (lv_at hl 3 rfl) ?_
  refine lv_iconst (v := 1) hx hb dX4_moves_33 (by decide) ?_
  refine lv_iadd hx hb dX4_moves_34 ?_
  obtain ⟨v7, hv7, hf⟩ := ob hf
  refine cSl (W.runV (As := [.int (K 5), .int ((bB v2) 1), .int (a1 + 1)]) (rest := [.long v6]) ⟨hx, hb, hml, hown, hts⟩ (m_X0_worthAt l D cI cJ cO ah (ab v2) (as_ v2) (ad v2) (bB v2) (bS v2) (bT v2) (bn v2) (bds v2) (K 5) ((bB v2) 1) (a1 + 1) N v7 hv7) (cwV 3 hts gX4_moves_X0_worthAt rfl rfl rfl (by decide +kernel) ⟨(Nat.le_of_ble_eq_true rfl), (Nat.le_of_ble_eq_true rfl)⟩) ⟨pw_blind, va_recv hK (hB v2 c3) (ci := 0) (q0 := 2) rfl rfl, fun U hU hW => ⟨rfl, pw_at hZ va_S.rf (hB v2 c3) hK hU hW (Or.inr rfl) [0, 1, 2] rfl⟩⟩ rfl rfl hl.1 rfl (lv_room (Nat.le_of_ble_eq_true rfl)) dX4_moves_35 ⟨(Nat.le_of_ble_eq_true rfl), (Nat.le_of_ble_eq_true rfl)⟩) ?_
  refine lv_lsub hx hb dX4_moves_38 ?_
  refine lv_l2i hx hb dX4_moves_39 rfl ?_
  refine vx_ret ?_
  refine W.widen (k := 2) (n := 12) (Nat.le_of_ble_eq_true rfl) (Nat.le_of_ble_eq_true rfl) ?_
  exact W.iret hx hb hr (fun t ht _ => ⟨_, rfl, (Option.some.inj hf).symm, ht⟩) (fun q hq => absurd hq List.not_mem_nil) dX4_moves_40
set_option maxHeartbeats 4000000 in
set_option maxRecDepth 100000 in
theorem m_X4_callsAt (l : Launch) (D : va_G) (cI cJ cO : ClassId) (ah : Nat) (qk : Nat) (qh : Nat) (qb : Nat) (ql : Nat) (ab : Nat → Nat) (as_ : Nat → Nat) (ad : Nat → Nat) (K : Nat → Int32) (kc : Int64) (hol : Nat → Int32) (LG : Nat → Int64) (nb : Nat) (bB : Nat → Nat → Int32) (bS : Nat → Nat → Int32) (bT : Nat → Nat → Int64) (bn : Nat → Nat) (bds : Nat → Nat → Int32) (a0 : Int32) (N : Nat) (r : Int32 ⊕ String) (hl0 : l.stackTraces = false) (hf : f_X4_callsAt N nb bB bS bT bn bds a0 = some r) : vx_Met l yX4_callsAt wsX4_callsAt ({ frames := 7, cells := 1, slots := 6, locals := 140 }) (va_Pc [.ref qk, .int a0] (pT (pwB D (ty3 cI cJ cO) (some ah) [eK qk qh qb ql K kc, eG cI qh hol, eF cO qb nb ab, eL ql LG] nb (fam cI ab as_ ad bB bS bT bn bds)))) (QTi r) (XT r) 1 6 (fun _ => False) := by
  refine vx_ofW (cc := cX4_callsAt) (maxL := 2) (ret := (some .int)) (by decide) rfl ?_
  intro p e s m args below meth c s₁ Bd hml hte hv
  obtain ⟨rfl, ⟨⟨hZ, hP, hK⟩, hB⟩, hT⟩ := hv
  have hx := Bd.exec
  have hb := Bd.bytes
  have hr := Bd.returns
  have hts := atoms_spec (ws := wsX4_callsAt) Bd.pre
  have hown : s.vm.findClass RX4 = some m.cls := findClass_of_methodNamed Bd.named
  have hlocks := Bd.notSynchronized
  have hl := lv_entry ([.ref qk, .int a0]) (n := 2) (Nat.le_of_ble_eq_true rfl)
  rw [lg_entry_eq]
  generalize (lg_sl ([.ref qk, .int a0]) ++ List.replicate (2 - (lg_sl ([.ref qk, .int a0])).length) Slot.unset).toArray = ls at hl ⊢
  have hl : lv_has ls 2 [(0, .ref qk), (1, .int a0)] := hl
  unfold f_X4_callsAt at hf
  refine lv_aload_n hx hb dX4_callsAt_0 rfl (lv_at hl 0 rfl) ?_
  refine lv_iload_n hx hb dX4_callsAt_1 rfl (lv_at hl 1 rfl) ?_
  obtain ⟨v1, hv1, hf⟩ := exs hf
  refine xSr (ad := ab) (vx_runV (As := [.int a0]) (rest := []) ⟨hx, hb, hml, hown, hts⟩ (m_X4_bondNumbered l D cI cJ cO ah qk qh qb ql ab K kc hol LG nb a0 v1 hl0 hv1) (cwV 1 hts gX4_callsAt_X4_bondNumbered rfl rfl rfl (by decide +kernel) ⟨(Nat.le_of_ble_eq_true rfl), (Nat.le_of_ble_eq_true rfl)⟩) ⟨pT_blind, va_recv hK hP (ci := 3) (q0 := 0) rfl rfl, fun U hU hW => ⟨rfl, pw_at hZ va_S.rf hP hK hU hW (Or.inr rfl) [0, 1, 2, 3] rfl, pX_at hT va_S.rf hU hW⟩⟩ rfl rfl hl.1 rfl (lv_room (Nat.le_of_ble_eq_true rfl)) dX4_callsAt_2 ⟨(Nat.le_of_ble_eq_true rfl), (Nat.le_of_ble_eq_true rfl)⟩) (fun E ce q9 H1 locs1 hE hz9 hk9 hS9 hc9 hv9 hl9 => vx_widen (k := 1) (n := 6) (Nat.le_of_ble_eq_true rfl) (Nat.le_of_ble_eq_true rfl) (vx_out (fun x h => (hte x h).elim) hlocks hc9 hv9 hl9 (fun t ht _ => ⟨ex_r hf hE, by rw [ht]; exact hz9, fun q h3 _ => by rw [ht]; exact hk9 q h3⟩) (fun z hz => absurd hz (by rw [hS9]; exact List.not_mem_nil)) (Nat.le_refl _) (Nat.le_refl _))) (fun v2 ev2 => ?_)
  have hf := ex_l hf ev2
  have c3 : v2 < nb := lt_X4_bondNumbered hv1 ev2
  obtain ⟨v4, hv4, hf⟩ := ob hf
  refine cSi (W.runV (As := []) (rest := []) ⟨hx, hb, hml, hown, hts⟩ (m_X0_rateOfCall l D cI cJ cO ah (ab v2) (as_ v2) (ad v2) (bB v2) (bS v2) (bT v2) (bn v2) (bds v2) N v4 hv4) (cwV 0 hts gX4_callsAt_X0_rateOfCall rfl rfl rfl (by decide +kernel) ⟨(Nat.le_of_ble_eq_true rfl), (Nat.le_of_ble_eq_true rfl)⟩) ⟨pw_blind, va_recv hK (hB v2 c3) (ci := 0) (q0 := 2) rfl rfl, fun U hU hW => ⟨rfl, pw_at hZ va_S.rf (hB v2 c3) hK hU hW (Or.inr rfl) [0, 1, 2] rfl⟩⟩ rfl rfl hl.1 rfl (lv_room (Nat.le_of_ble_eq_true rfl)) dX4_callsAt_5 ⟨(Nat.le_of_ble_eq_true rfl), (Nat.le_of_ble_eq_true rfl)⟩) ?_
  refine vx_ret ?_
  refine W.widen (k := 1) (n := 6) (Nat.le_of_ble_eq_true rfl) (Nat.le_of_ble_eq_true rfl) ?_
  exact W.iret hx hb hr (fun t ht _ => ⟨_, rfl, (Option.some.inj hf).symm, ht⟩) (fun q hq => absurd hq List.not_mem_nil) dX4_callsAt_8
theorem atX4_count_170 : ∀ w ∈ (vx_atS RX4 170 "java/lang/IndexOutOfBoundsException" ["java/lang/RuntimeException", "java/lang/Exception"]).filter goodWord, w ∈ wsX4_count := by decide +kernel
set_option maxHeartbeats 4000000 in
set_option maxRecDepth 100000 in
theorem m_X4_count (l : Launch) (D : va_G) (cI cJ cO : ClassId) (ah : Nat) (qk : Nat) (qh : Nat) (qb : Nat) (ql : Nat) (ab : Nat → Nat) (as_ : Nat → Nat) (ad : Nat → Nat) (K : Nat → Int32) (kc : Int64) (hol : Nat → Int32) (LG : Nat → Int64) (nb : Nat) (bB : Nat → Nat → Int32) (bS : Nat → Nat → Int32) (bT : Nat → Nat → Int64) (bn : Nat → Nat) (bds : Nat → Nat → Int32) (a0 : Int32) (N : Nat) (r : Int64 ⊕ String) (hl0 : l.stackTraces = false) (hf : f_X4_count N K kc LG nb bB bS bT bn bds a0 = some r) : vx_Met l yX4_count wsX4_count ({ frames := 6, cells := 1, slots := 6, locals := 138 }) (va_Pc [.ref qk, .int a0] (pT (pwB D (ty3 cI cJ cO) (some ah) [eK qk qh qb ql K kc, eG cI qh hol, eF cO qb nb ab, eL ql LG] nb (fam cI ab as_ ad bB bS bT bn bds)))) (QTl r) (XT r) 1 6 (fun _ => False) := by
  refine vx_ofW (cc := cX4_count) (maxL := 2) (ret := (some .long)) (by decide) rfl ?_
  intro p e s m args below meth c s₁ Bd hml hte hv
  obtain ⟨rfl, ⟨⟨hZ, hP, hK⟩, hB⟩, hT⟩ := hv
  have hx := Bd.exec
  have hb := Bd.bytes
  have hr := Bd.returns
  have hts := atoms_spec (ws := wsX4_count) Bd.pre
  have hown : s.vm.findClass RX4 = some m.cls := findClass_of_methodNamed Bd.named
  have hlocks := Bd.notSynchronized
  have hl := lv_entry ([.ref qk, .int a0]) (n := 2) (Nat.le_of_ble_eq_true rfl)
  rw [lg_entry_eq]
  generalize (lg_sl ([.ref qk, .int a0]) ++ List.replicate (2 - (lg_sl ([.ref qk, .int a0])).length) Slot.unset).toArray = ls at hl ⊢
  have hl : lv_has ls 2 [(0, .ref qk), (1, .int a0)] := hl
  unfold f_X4_count at hf
  refine lv_iload_n hx hb dX4_count_0 rfl (lv_at hl 1 rfl) ?_
  refine lv_if_lt (tgt := 10) hx hb dX4_count_1 (by decide) (fun c1 => ?_) (fun c1 => ?_)
  · have hf := it hf c1
    obtain ⟨sa, hsa⟩ := hT.2.2.1 (268, "what is not 0 to 11") (by decide +kernel)
    exact vx_throwSW (names := ["java/lang/RuntimeException", "java/lang/Exception"]) (A := (fun _ => False)) hx hb hl0 hown (by decide) (by decide) (hts (.classLink RX4 166 "java/lang/IndexOutOfBoundsException") (by decide +kernel)) (hts (.initialized "java/lang/IndexOutOfBoundsException") (by decide +kernel)) hsa (vx_hat (fun w hw => hts w (atX4_count_170 w hw)) thr_ng170 (fun w hw => va_any (thr_ot w hw) (hT.2.2.2 w hw))) (by decide +kernel) hT.1 hT.2.1 va_S.rf (hl.1.trans hml.symm) dX4_count_10 dX4_count_13 dX4_count_14 dX4_count_17 dX4_count_20 (fun x h => (hte x h).elim) (Nat.le_of_ble_eq_true rfl) (Nat.le_of_ble_eq_true rfl) (Nat.le_of_ble_eq_true rfl) (Nat.le_of_ble_eq_true rfl) hlocks (fun t _ h1 h2 => ⟨(Option.some.inj hf).symm, h1, fun q h3 _ => h2 q h3⟩) (fun z hz => absurd hz List.not_mem_nil) (Nat.le_of_ble_eq_true rfl) (Nat.le_of_ble_eq_true rfl)
  · have hf := ie hf c1
    refine lv_iload_n hx hb dX4_count_4 rfl (lv_at hl 1 rfl) ?_
    refine lv_bipush (v := 11) hx hb dX4_count_5 (by decide) ?_
    refine lv_icmp_le (tgt := 21) hx hb dX4_count_7 (by decide) (fun c2 => ?_) (fun c2 => ?_)
    · have hf := it hf c2
      refine lv_aload_n hx hb dX4_count_21 rfl (lv_at hl 0 rfl) ?_
      refine lv_iload_n hx hb dX4_count_22 rfl (lv_at hl 1 rfl) ?_
      obtain ⟨v3, hv3, hf⟩ := ob hf
      refine cSl (W.runV (As := [.int a0]) (rest := []) ⟨hx, hb, hml, hown, hts⟩ (m_X4_tell l D cI cJ cO ah qk qh qb ql ab as_ ad K kc hol LG nb bB bS bT bn bds a0 N v3 hv3) (cwV 1 hts gX4_count_X4_tell rfl rfl rfl (by decide +kernel) ⟨(Nat.le_of_ble_eq_true rfl), (Nat.le_of_ble_eq_true rfl)⟩) ⟨pwB_blind, va_recv hK hP (ci := 3) (q0 := 0) rfl rfl, fun U hU hW => ⟨rfl, pwB_at hZ va_S.rf hP hB hK hU hW (Or.inr rfl) [0, 1, 2, 3] rfl⟩⟩ rfl rfl hl.1 rfl (lv_room (Nat.le_of_ble_eq_true rfl)) dX4_count_23 ⟨(Nat.le_of_ble_eq_true rfl), (Nat.le_of_ble_eq_true rfl)⟩) ?_
      refine vx_ret ?_
      refine W.widen (k := 1) (n := 6) (Nat.le_of_ble_eq_true rfl) (Nat.le_of_ble_eq_true rfl) ?_
      exact W.lret hx hb hr (fun t ht _ => ⟨_, rfl, (Option.some.inj hf).symm, ht⟩) (fun q hq => absurd hq List.not_mem_nil) dX4_count_26
    · have hf := ie hf c2
      obtain ⟨sa, hsa⟩ := hT.2.2.1 (268, "what is not 0 to 11") (by decide +kernel)
      exact vx_throwSW (names := ["java/lang/RuntimeException", "java/lang/Exception"]) (A := (fun _ => False)) hx hb hl0 hown (by decide) (by decide) (hts (.classLink RX4 166 "java/lang/IndexOutOfBoundsException") (by decide +kernel)) (hts (.initialized "java/lang/IndexOutOfBoundsException") (by decide +kernel)) hsa (vx_hat (fun w hw => hts w (atX4_count_170 w hw)) thr_ng170 (fun w hw => va_any (thr_ot w hw) (hT.2.2.2 w hw))) (by decide +kernel) hT.1 hT.2.1 va_S.rf (hl.1.trans hml.symm) dX4_count_10 dX4_count_13 dX4_count_14 dX4_count_17 dX4_count_20 (fun x h => (hte x h).elim) (Nat.le_of_ble_eq_true rfl) (Nat.le_of_ble_eq_true rfl) (Nat.le_of_ble_eq_true rfl) (Nat.le_of_ble_eq_true rfl) hlocks (fun t _ h1 h2 => ⟨(Option.some.inj hf).symm, h1, fun q h3 _ => h2 q h3⟩) (fun z hz => absurd hz List.not_mem_nil) (Nat.le_of_ble_eq_true rfl) (Nat.le_of_ble_eq_true rfl)
theorem inX4_paysIn_X0 : ∀ w ∈ wsX00, w ∈ wsX4_paysIn := by decide +kernel
theorem inX4_paysIn_X4 : ∀ w ∈ wsX40, w ∈ wsX4_paysIn := by decide +kernel
set_option maxHeartbeats 4000000 in
set_option maxRecDepth 100000 in
theorem m_X4_paysIn (l : Launch) (D : va_G) (cI cJ cO : ClassId) (ah : Nat) (qk : Nat) (qh : Nat) (qb : Nat) (ql : Nat) (ab : Nat → Nat) (as_ : Nat → Nat) (ad : Nat → Nat) (K : Nat → Int32) (kc : Int64) (hol : Nat → Int32) (LG : Nat → Int64) (nb : Nat) (bB : Nat → Nat → Int32) (bS : Nat → Nat → Int32) (bT : Nat → Nat → Int64) (bn : Nat → Nat) (bds : Nat → Nat → Int32) (a0 : Int32) (N : Nat) (r : Int64 ⊕ String) (hl0 : l.stackTraces = false) (hf : f_X4_paysIn N K nb bB bS bT bn bds a0 = some r) : vx_Met l yX4_paysIn wsX4_paysIn ({ frames := 7, cells := 1, slots := 6, locals := 102 }) (va_Pc [.ref qk, .int a0] (pT (pwB D (ty3 cI cJ cO) (some ah) [eK qk qh qb ql K kc, eG cI qh hol, eF cO qb nb ab, eL ql LG] nb (fam cI ab as_ ad bB bS bT bn bds)))) (QTl r) (XT r) 1 6 (fun _ => False) := by
  refine vx_ofW (cc := cX4_paysIn) (maxL := 8) (ret := (some .long)) (by decide) rfl ?_
  intro p e s m args below meth c s₁ Bd hml hte hv
  obtain ⟨rfl, ⟨⟨hZ, hP, hK⟩, hB⟩, hT⟩ := hv
  have hx := Bd.exec
  have hb := Bd.bytes
  have hr := Bd.returns
  have hts := atoms_spec (ws := wsX4_paysIn) Bd.pre
  have hown : s.vm.findClass RX4 = some m.cls := findClass_of_methodNamed Bd.named
  have hlocks := Bd.notSynchronized
  have hl := lv_entry ([.ref qk, .int a0]) (n := 8) (Nat.le_of_ble_eq_true rfl)
  rw [lg_entry_eq]
  generalize (lg_sl ([.ref qk, .int a0]) ++ List.replicate (8 - (lg_sl ([.ref qk, .int a0])).length) Slot.unset).toArray = ls at hl ⊢
  have hl : lv_has ls 8 [(0, .ref qk), (1, .int a0)] := hl
  unfold f_X4_paysIn at hf
  refine lv_iload_n hx hb dX4_paysIn_0 rfl (lv_at hl 1 rfl) ?_
  obtain ⟨v1, hv1, hf⟩ := exs hf
  refine xSv (vx_runS (As := [.int a0]) (rest := []) ⟨hx, hb, hml, hown, hts⟩ (m_X4_requireYear l D cI cJ cO ah a0 v1 hl0 hv1) (va_cwS 1 hts gX4_paysIn_X4_requireYear rfl rfl rfl (by decide +kernel) ⟨(Nat.le_of_ble_eq_true rfl), (Nat.le_of_ble_eq_true rfl)⟩) ⟨pT_blind, fun U hU hW => ⟨rfl, pw_at hZ va_S.rf hP hK hU hW (Or.inr rfl) [] rfl, pX_at hT va_S.rf hU hW⟩⟩ rfl rfl hl.1 rfl (lv_room (Nat.le_of_ble_eq_true rfl)) dX4_paysIn_1 ⟨(Nat.le_of_ble_eq_true rfl), (Nat.le_of_ble_eq_true rfl)⟩) (fun E ce q9 H1 locs1 hE hz9 hk9 hS9 hc9 hv9 hl9 => vx_widen (k := 1) (n := 6) (Nat.le_of_ble_eq_true rfl) (Nat.le_of_ble_eq_true rfl) (vx_out (fun x h => (hte x h).elim) hlocks hc9 hv9 hl9 (fun t ht _ => ⟨ex_r hf hE, by rw [ht]; exact hz9, fun q h3 _ => by rw [ht]; exact hk9 q h3⟩) (fun z hz => absurd hz (by rw [hS9]; exact List.not_mem_nil)) (Nat.le_refl _) (Nat.le_refl _))) (fun v2 ev2 => ?_)
  have hf := ex_l hf ev2
  refine lv_lconst (v := 0) hx hb dX4_paysIn_4 (by decide) ?_
  refine lv_lstore_n (lv' := [(2, .long 0), (0, .ref qk), (1, .int a0)]) hx hb dX4_paysIn_5 rfl hl (by decide) rfl (fun ls hl => ?_)
  refine lv_aload_n hx hb dX4_paysIn_6 rfl (lv_at hl 1 rfl) ?_
  refine va_get (D := D) (ci := 3) (v := .ref qb) (C := RX4) (T := TX4) (N := 8) hx hb hts inX4_paysIn_X4 hown hK hP 0 rfl rfl 1 (by decide) (hts (.fieldLink RX4 15 "BondDesk" "bonds" "[LBondDesk$Bond;") (by decide +kernel)) (fun _ h9 => h9) rfl dX4_paysIn_7 ?_
  refine lv_astore (lv' := [(4, .ref qb), (2, .long 0), (0, .ref qk), (1, .int a0)]) hx hb dX4_paysIn_10 hl (by decide) rfl (fun ls hl => ?_)
  refine lv_aload hx hb dX4_paysIn_12 (lv_at hl 0 rfl) ?_
  refine va_alen (v := 10) hx hb hK hP 2 2 rfl rfl rfl dX4_paysIn_14 ?_
  refine lv_istore (lv' := [(5, .int 10), (4, .ref qb), (2, .long 0), (0, .ref qk), (1, .int a0)]) hx hb dX4_paysIn_15 hl (by decide) rfl (fun ls hl => ?_)
  refine lv_iconst (v := 0) hx hb dX4_paysIn_17 (by decide) ?_
  refine lv_istore (lv' := [(6, .int 0), (5, .int 10), (4, .ref qb), (2, .long 0), (0, .ref qk), (1, .int a0)]) hx hb dX4_paysIn_18 hl (by decide) rfl (fun ls hl => ?_)
  have LP20 : ∀ (n5 : Nat) (x3 : Int64) (x4 : Int32) (ls : Array Slot), lv_has ls 8 [(0, .ref qk), (1, .int a0), (2, .long x3), (4, .ref qb), (5, .int 10), (6, .int x4)] → f_X4_paysIn_L20 nb N bB bS bT bn bds a0 K n5 x3 x4 = some r → W p l e (headSpec wsX4_paysIn ({ frames := 7, cells := 1, slots := 6, locals := 102 })).room s m ([.ref qk, .int a0] : List Value).toArray below meth c s.heap [] 1 6 (vx_MQ below (QTl r) (XT r) ([.ref qk, .int a0] : List Value).toArray s 1 6 (fun _ => False)) (F0 m 20 ls []) := by
    intro n5
    induction n5 with
    | zero => intro x3 x4 ls hl hf; exact (no_s hf).elim
    | succ n5 ih5 =>
      intro x3 x4 ls hl hf
      rw [f_X4_paysIn_L20] at hf
      refine lv_iload hx hb dX4_paysIn_20 (lv_at hl 5 rfl) ?_
      refine lv_iload hx hb dX4_paysIn_22 (lv_at hl 4 rfl) ?_
      refine lv_icmp_ge (tgt := 65) hx hb dX4_paysIn_24 (by decide) (fun c6 => ?_) (fun c6 => ?_)
      · have hf := it hf c6
        refine lv_lload_n hx hb dX4_paysIn_65 rfl (lv_at hl 2 rfl) ?_
        refine vx_ret ?_
        refine W.widen (k := 1) (n := 6) (Nat.le_of_ble_eq_true rfl) (Nat.le_of_ble_eq_true rfl) ?_
        exact W.lret hx hb hr (fun t ht _ => ⟨_, rfl, (Option.some.inj hf).symm, ht⟩) (fun q hq => absurd hq List.not_mem_nil) dX4_paysIn_66
      · have hf := ie hf c6
        refine lv_aload hx hb dX4_paysIn_27 (lv_at hl 3 rfl) ?_
        refine lv_iload hx hb dX4_paysIn_29 (lv_at hl 5 rfl) ?_
        obtain ⟨c7, hf⟩ := gd_s hf
        refine aldB hx hb hK hP 2 2 rfl rfl c7 dX4_paysIn_31 (fun c8 => ?_) (fun c8 => ?_)
        · have hf := it hf c8
          refine lv_astore (lv' := [(7, .ref (ab x4.toNatClampNeg)), (0, .ref qk), (1, .int a0), (2, .long x3), (4, .ref qb), (5, .int 10), (6, .int x4)]) hx hb dX4_paysIn_32 hl (by decide) rfl (fun ls hl => ?_)
          refine lv_aload hx hb dX4_paysIn_34 (lv_at hl 0 rfl) ?_
          refine lv_ifnull hx hb dX4_paysIn_36 ?_
          refine lv_lload_n hx hb dX4_paysIn_39 rfl (lv_at hl 3 rfl) ?_
          refine lv_aload hx hb dX4_paysIn_40 (lv_at hl 0 rfl) ?_
          refine va_get (D := D) (ci := 0) (v := .int ((bB x4.toNatClampNeg) 4)) (C := RX0) (T := TX0) (N := 9) hx hb hts inX4_paysIn_X0 hown hK (hB x4.toNatClampNeg c8) 2 rfl rfl 4 (by decide) (hts (.fieldLink RX4 244 "BondDesk$Bond" "pieces" "I") (by decide +kernel)) (fun _ h9 => h9) rfl dX4_paysIn_42 ?_
          refine lv_i2l hx hb dX4_paysIn_45 rfl ?_
          refine lv_aload hx hb dX4_paysIn_46 (lv_at hl 0 rfl) ?_
          refine lv_iload_n hx hb dX4_paysIn_48 rfl (lv_at hl 2 rfl) ?_
          refine lv_aload_n hx hb dX4_paysIn_49 rfl (lv_at hl 1 rfl) ?_
          refine va_get (D := D) (ci := 3) (v := .int (K 5)) (C := RX4) (T := TX4) (N := 8) hx hb hts inX4_paysIn_X4 hown hK hP 0 rfl rfl 5 (by decide) (hts (.fieldLink RX4 27 "BondDesk" "today" "I") (by decide +kernel)) (fun _ h9 => h9) rfl dX4_paysIn_50 ?_
          obtain ⟨v9, hv9, hf⟩ := ob hf
          refine cSl (W.runV (As := [.int a0, .int (K 5)]) (rest := [.long (((bB x4.toNatClampNeg) 4).toInt64), .long x3]) ⟨hx, hb, hml, hown, hts⟩ (m_X0_paymentsIn l D cI cJ cO ah (ab x4.toNatClampNeg) (as_ x4.toNatClampNeg) (ad x4.toNatClampNeg) (bB x4.toNatClampNeg) (bS x4.toNatClampNeg) (bT x4.toNatClampNeg) (bn x4.toNatClampNeg) (bds x4.toNatClampNeg) a0 (K 5) N v9 hv9) (cwV 2 hts gX4_paysIn_X0_paymentsIn rfl rfl rfl (by decide +kernel) ⟨(Nat.le_of_ble_eq_true rfl), (Nat.le_of_ble_eq_true rfl)⟩) ⟨pw_blind, va_recv hK (hB x4.toNatClampNeg c8) (ci := 0) (q0 := 2) rfl rfl, fun U hU hW => ⟨rfl, pw_at hZ va_S.rf (hB x4.toNatClampNeg c8) hK hU hW (Or.inr rfl) [0, 1, 2] rfl⟩⟩ rfl rfl hl.1 rfl (lv_room (Nat.le_of_ble_eq_true rfl)) dX4_paysIn_53 ⟨(Nat.le_of_ble_eq_true rfl), (Nat.le_of_ble_eq_true rfl)⟩) ?_
          refine lv_lmul hx hb dX4_paysIn_56 ?_
          refine lv_ladd hx hb dX4_paysIn_57 ?_
          refine lv_topl (fun x10 ex10 => ?_)
          have hf := bd_s hf ex10
          refine lv_lstore_n (lv' := [(2, .long x10), (7, .ref (ab x4.toNatClampNeg)), (0, .ref qk), (1, .int a0), (4, .ref qb), (5, .int 10), (6, .int x4)]) hx hb dX4_paysIn_58 rfl hl (by decide) rfl (fun ls hl => ?_)
          obtain ⟨x11, ex11⟩ : ∃ y : Int32, y = x4 + 1 := ⟨_, rfl⟩
          have hf := bd_s hf ex11
          refine lv_iinc (v := x11) (lv' := [(6, .int x11), (2, .long x10), (7, .ref (ab x4.toNatClampNeg)), (0, .ref qk), (1, .int a0), (4, .ref qb), (5, .int 10)]) hx hb dX4_paysIn_59 hl (k := 6) rfl (by rw [ex11]; rfl) (by decide) rfl (fun ls hl => ?_)
          refine lv_goto (tgt := 20) hx hb dX4_paysIn_62 (by decide) ?_
          exact ih5 x10 x11 ls (lv_sub hl [3, 4, 1, 5, 6, 0] rfl) hf
        · have hf := ie hf c8
          refine lv_astoreN (lv' := [(7, .null), (0, .ref qk), (1, .int a0), (2, .long x3), (4, .ref qb), (5, .int 10), (6, .int x4)]) hx hb dX4_paysIn_32 hl (by decide) rfl (fun ls hl => ?_)
          refine lv_aloadN hx hb dX4_paysIn_34 (lv_at hl 0 rfl) ?_
          refine lv_ifnullN (tgt := 59) hx hb dX4_paysIn_36 (by decide) ?_
          obtain ⟨x12, ex12⟩ : ∃ y : Int32, y = x4 + 1 := ⟨_, rfl⟩
          have hf := bd_s hf ex12
          refine lv_iinc (v := x12) (lv' := [(6, .int x12), (7, .null), (0, .ref qk), (1, .int a0), (2, .long x3), (4, .ref qb), (5, .int 10)]) hx hb dX4_paysIn_59 hl (k := 6) rfl (by rw [ex12]; rfl) (by decide) rfl (fun ls hl => ?_)
          refine lv_goto (tgt := 20) hx hb dX4_paysIn_62 (by decide) ?_
          exact ih5 x3 x12 ls (lv_sub hl [2, 3, 4, 5, 6, 0] rfl) hf
  exact LP20 N 0 0 ls (lv_sub hl [4, 5, 3, 2, 1, 0] rfl) hf
theorem inX4_ladder_X4 : ∀ w ∈ wsX40, w ∈ wsX4_ladder := by decide +kernel
theorem atX4_ladder_48 : ∀ w ∈ (vx_atS RX4 48 "java/lang/IllegalArgumentException" ["java/lang/RuntimeException", "java/lang/Exception"]).filter goodWord, w ∈ wsX4_ladder := by decide +kernel
set_option maxHeartbeats 4000000 in
set_option maxRecDepth 100000 in
theorem m_X4_ladder (l : Launch) (D : va_G) (cI cJ cO : ClassId) (ah : Nat) (qk : Nat) (qh : Nat) (qb : Nat) (ql : Nat) (ab : Nat → Nat) (as_ : Nat → Nat) (ad : Nat → Nat) (K : Nat → Int32) (kc : Int64) (hol : Nat → Int32) (LG : Nat → Int64) (nb : Nat) (bB : Nat → Nat → Int32) (bS : Nat → Nat → Int32) (bT : Nat → Nat → Int64) (bn : Nat → Nat) (bds : Nat → Nat → Int32) (a0 : Int32) (a1 : Int32) (N : Nat) (r : Int32 ⊕ String) (hl0 : l.stackTraces = false) (hf : f_X4_ladder N K kc nb bB bS bT bn bds a0 a1 = some r) : vx_Met l yX4_ladder wsX4_ladder ({ frames := 7, cells := 3, slots := 18, locals := 120 }) (va_Pc [.ref qk, .int a0, .int a1] (pT (pwB D (ty3 cI cJ cO) (some ah) [eK qk qh qb ql K kc, eG cI qh hol, eF cO qb nb ab, eL ql LG] nb (fam cI ab as_ ad bB bS bT bn bds)))) (QTi r) (XT r) 3 18 (fun _ => False) := by
  refine vx_ofW (cc := cX4_ladder) (maxL := 8) (ret := (some .int)) (by decide) rfl ?_
  intro p e s m args below meth c s₁ Bd hml hte hv
  obtain ⟨rfl, ⟨⟨hZ, hP, hK⟩, hB⟩, hT⟩ := hv
  have hx := Bd.exec
  have hb := Bd.bytes
  have hr := Bd.returns
  have hts := atoms_spec (ws := wsX4_ladder) Bd.pre
  have hown : s.vm.findClass RX4 = some m.cls := findClass_of_methodNamed Bd.named
  have hlocks := Bd.notSynchronized
  have hl := lv_entry ([.ref qk, .int a0, .int a1]) (n := 8) (Nat.le_of_ble_eq_true rfl)
  rw [lg_entry_eq]
  generalize (lg_sl ([.ref qk, .int a0, .int a1]) ++ List.replicate (8 - (lg_sl ([.ref qk, .int a0, .int a1])).length) Slot.unset).toArray = ls at hl ⊢
  have hl : lv_has ls 8 [(0, .ref qk), (1, .int a0), (2, .int a1)] := hl
  unfold f_X4_ladder at hf
  refine lv_iload_n hx hb dX4_ladder_0 rfl (lv_at hl 1 rfl) ?_
  obtain ⟨v1, hv1, hf⟩ := exs hf
  refine xSv (vx_runS (As := [.int a0]) (rest := []) ⟨hx, hb, hml, hown, hts⟩ (m_X4_requireYear l D cI cJ cO ah a0 v1 hl0 hv1) (va_cwS 1 hts gX4_ladder_X4_requireYear rfl rfl rfl (by decide +kernel) ⟨(Nat.le_of_ble_eq_true rfl), (Nat.le_of_ble_eq_true rfl)⟩) ⟨pT_blind, fun U hU hW => ⟨rfl, pw_at hZ va_S.rf hP hK hU hW (Or.inr rfl) [] rfl, pX_at hT va_S.rf hU hW⟩⟩ rfl rfl hl.1 rfl (lv_room (Nat.le_of_ble_eq_true rfl)) dX4_ladder_1 ⟨(Nat.le_of_ble_eq_true rfl), (Nat.le_of_ble_eq_true rfl)⟩) (fun E ce q9 H1 locs1 hE hz9 hk9 hS9 hc9 hv9 hl9 => vx_widen (k := 3) (n := 18) (Nat.le_of_ble_eq_true rfl) (Nat.le_of_ble_eq_true rfl) (vx_out (fun x h => (hte x h).elim) hlocks hc9 hv9 hl9 (fun t ht _ => ⟨ex_r hf hE, by rw [ht]; exact hz9, fun q h3 _ => by rw [ht]; exact hk9 q h3⟩) (fun z hz => absurd hz (by rw [hS9]; exact List.not_mem_nil)) (Nat.le_refl _) (Nat.le_refl _))) (fun v2 ev2 => ?_)
  have hf := ex_l hf ev2
  refine lv_iload_n hx hb dX4_ladder_4 rfl (lv_at hl 2 rfl) ?_
  obtain ⟨v3, hv3, hf⟩ := exs hf
  refine xSv (vx_runS (As := [.int a1]) (rest := []) ⟨hx, hb, hml, hown, hts⟩ (m_X4_requireYear l D cI cJ cO ah a1 v3 hl0 hv3) (va_cwS 1 hts gX4_ladder_X4_requireYear rfl rfl rfl (by decide +kernel) ⟨(Nat.le_of_ble_eq_true rfl), (Nat.le_of_ble_eq_true rfl)⟩) ⟨pT_blind, fun U hU hW => ⟨rfl, pw_at hZ va_S.rf hP hK hU hW (Or.inr rfl) [] rfl, pX_at hT va_S.rf hU hW⟩⟩ rfl rfl hl.1 rfl (lv_room (Nat.le_of_ble_eq_true rfl)) dX4_ladder_5 ⟨(Nat.le_of_ble_eq_true rfl), (Nat.le_of_ble_eq_true rfl)⟩) (fun E ce q9 H1 locs1 hE hz9 hk9 hS9 hc9 hv9 hl9 => vx_widen (k := 3) (n := 18) (Nat.le_of_ble_eq_true rfl) (Nat.le_of_ble_eq_true rfl) (vx_out (fun x h => (hte x h).elim) hlocks hc9 hv9 hl9 (fun t ht _ => ⟨ex_r hf hE, by rw [ht]; exact hz9, fun q h3 _ => by rw [ht]; exact hk9 q h3⟩) (fun z hz => absurd hz (by rw [hS9]; exact List.not_mem_nil)) (Nat.le_refl _) (Nat.le_refl _))) (fun v4 ev4 => ?_)
  have hf := ex_l hf ev4
  refine lv_iload_n hx hb dX4_ladder_8 rfl (lv_at hl 2 rfl) ?_
  refine lv_iload_n hx hb dX4_ladder_9 rfl (lv_at hl 1 rfl) ?_
  refine lv_icmp_ge (tgt := 24) hx hb dX4_ladder_10 (by decide) (fun c5 => ?_) (fun c5 => ?_)
  · have hf := it hf c5
    refine lv_lconst (v := 0) hx hb dX4_ladder_24 (by decide) ?_
    refine lv_lstore_n (lv' := [(3, .long 0), (0, .ref qk), (1, .int a0), (2, .int a1)]) hx hb dX4_ladder_25 rfl hl (by decide) rfl (fun ls hl => ?_)
    refine lv_iload_n hx hb dX4_ladder_26 rfl (lv_at hl 2 rfl) ?_
    refine lv_istore (lv' := [(5, .int a0), (3, .long 0), (0, .ref qk), (1, .int a0), (2, .int a1)]) hx hb dX4_ladder_27 hl (by decide) rfl (fun ls hl => ?_)
    obtain ⟨K8, hK8, hf⟩ := kx_s (P := fun k => f_X4_ladder_L29 a1 N K nb bB bS bT bn bds k N 0 a0 = some r) hf
    have JK8 : ∀ (x9 : Int64) (ls : Array Slot), lv_has ls 8 [(0, .ref qk), (3, .long x9)] → K8 x9 = some r → W p l e (headSpec wsX4_ladder ({ frames := 7, cells := 3, slots := 18, locals := 120 })).room s m ([.ref qk, .int a0, .int a1] : List Value).toArray below meth c s.heap [] 2 12 (vx_MQ below (QTi r) (XT r) ([.ref qk, .int a0, .int a1] : List Value).toArray s 3 18 (fun _ => False)) (F0 m 63 ls []) := by
      intro x9 ls hl hf
      rw [hK8] at hf
      refine lv_lload_n hx hb dX4_ladder_63 rfl (lv_at hl 1 rfl) ?_
      refine lv_lconst (v := 0) hx hb dX4_ladder_64 (by decide) ?_
      refine W.lcmp hx hb dX4_ladder_65 ?_
      refine lv_if_gt (tgt := 73) hx hb dX4_ladder_66 (by decide) (fun c16 => ?_) (fun c16 => ?_)
      · have hf := it hf c16
        refine lv_aload_n hx hb dX4_ladder_73 rfl (lv_at hl 0 rfl) ?_
        refine va_get (D := D) (ci := 3) (v := .long kc) (C := RX4) (T := TX4) (N := 8) hx hb hts inX4_ladder_X4 hown hK hP 0 rfl rfl 6 (by decide) (hts (.fieldLink RX4 33 "BondDesk" "cash" "J") (by decide +kernel)) (fun _ h9 => h9) rfl dX4_ladder_74 ?_
        refine lv_lload_n hx hb dX4_ladder_77 rfl (lv_at hl 1 rfl) ?_
        obtain ⟨c17, hf⟩ := gd_s hf
        refine lv_ldiv hx hb dX4_ladder_78 c17 ?_
        refine lv_ldc2 hx hb hown (hts (.constantLong RX4 283 (1000000)) (by decide +kernel)) dX4_ladder_79 ?_
        refine va_mmin_long hx hb (hml.trans hl.1.symm) hown (hts (.methodLink RX4 285 Lib.MathLoose.min_long.x) (by decide +kernel)) (hts (.static Lib.MathLoose.min_long.x) (by decide +kernel)) (hts (.initialized "java/lang/Math") (by decide +kernel)) (hts (.code Lib.MathLoose.min_long.x Lib.MathLoose.min_long.code 4 (some .long)) (by decide +kernel)) (Nat.le_of_ble_eq_true rfl) (Nat.le_of_ble_eq_true rfl) (Nat.le_of_ble_eq_true rfl) (Nat.le_of_ble_eq_true rfl) dX4_ladder_82 ?_
        refine lv_topl (fun x18 ex18 => ?_)
        have hf := bd_s hf ex18
        refine lv_l2i hx hb dX4_ladder_85 rfl ?_
        refine vx_ret ?_
        refine W.widen (k := 3) (n := 18) (Nat.le_of_ble_eq_true rfl) (Nat.le_of_ble_eq_true rfl) ?_
        exact W.iret hx hb hr (fun t ht _ => ⟨_, rfl, (Option.some.inj hf).symm, ht⟩) (fun q hq => absurd hq List.not_mem_nil) dX4_ladder_86
      · have hf := ie hf c16
        refine lv_iconst (v := 0) hx hb dX4_ladder_69 (by decide) ?_
        refine lv_goto (tgt := 86) hx hb dX4_ladder_70 (by decide) ?_
        refine vx_ret ?_
        refine W.widen (k := 3) (n := 18) (Nat.le_of_ble_eq_true rfl) (Nat.le_of_ble_eq_true rfl) ?_
        exact W.iret hx hb hr (fun t ht _ => ⟨_, rfl, (Option.some.inj hf).symm, ht⟩) (fun q hq => absurd hq List.not_mem_nil) dX4_ladder_86
    have LP29 : ∀ (n10 : Nat) (x6 : Int64) (x7 : Int32) (ls : Array Slot), lv_has ls 8 [(0, .ref qk), (2, .int a1), (3, .long x6), (5, .int x7)] → f_X4_ladder_L29 a1 N K nb bB bS bT bn bds K8 n10 x6 x7 = some r → W p l e (headSpec wsX4_ladder ({ frames := 7, cells := 3, slots := 18, locals := 120 })).room s m ([.ref qk, .int a0, .int a1] : List Value).toArray below meth c s.heap [] 2 12 (vx_MQ below (QTi r) (XT r) ([.ref qk, .int a0, .int a1] : List Value).toArray s 3 18 (fun _ => False)) (F0 m 29 ls []) := by
      intro n10
      induction n10 with
      | zero => intro x6 x7 ls hl hf; exact (no_s hf).elim
      | succ n10 ih10 =>
        intro x6 x7 ls hl hf
        rw [f_X4_ladder_L29] at hf
        refine lv_iload hx hb dX4_ladder_29 (lv_at hl 3 rfl) ?_
        refine lv_iload_n hx hb dX4_ladder_31 rfl (lv_at hl 1 rfl) ?_
        refine lv_icmp_gt (tgt := 63) hx hb dX4_ladder_32 (by decide) (fun c11 => ?_) (fun c11 => ?_)
        · have hf := it hf c11
          exact JK8 x6 ls (lv_sub hl [0, 2] rfl) hf
        · have hf := ie hf c11
          refine lv_aload_n hx hb dX4_ladder_35 rfl (lv_at hl 0 rfl) ?_
          refine lv_iload hx hb dX4_ladder_36 (lv_at hl 3 rfl) ?_
          obtain ⟨v12, hv12, hf⟩ := ob hf
          refine cSl (W.runV (As := [.int x7]) (rest := []) ⟨hx, hb, hml, hown, hts⟩ (m_X4_leastWorth l D cI cJ cO ah qk qh qb ql ab as_ ad K kc hol LG nb bB bS bT bn bds x7 N v12 hv12) (cwV 1 hts gX4_ladder_X4_leastWorth rfl rfl rfl (by decide +kernel) ⟨(Nat.le_of_ble_eq_true rfl), (Nat.le_of_ble_eq_true rfl)⟩) ⟨pwB_blind, va_recv hK hP (ci := 3) (q0 := 0) rfl rfl, fun U hU hW => ⟨rfl, pwB_at hZ va_S.rf hP hB hK hU hW (Or.inr rfl) [0, 1, 2, 3] rfl⟩⟩ rfl rfl hl.1 rfl (lv_room (Nat.le_of_ble_eq_true rfl)) dX4_ladder_38 ⟨(Nat.le_of_ble_eq_true rfl), (Nat.le_of_ble_eq_true rfl)⟩) ?_
          refine lv_lstore (lv' := [(6, .long v12), (0, .ref qk), (2, .int a1), (3, .long x6), (5, .int x7)]) hx hb dX4_ladder_41 hl (by decide) rfl (fun ls hl => ?_)
          refine lv_lload hx hb dX4_ladder_43 (lv_at hl 0 rfl) ?_
          refine lv_lconst (v := 0) hx hb dX4_ladder_45 (by decide) ?_
          refine W.lcmp hx hb dX4_ladder_46 ?_
          refine lv_if_ge (tgt := 52) hx hb dX4_ladder_47 (by decide) (fun c13 => ?_) (fun c13 => ?_)
          · have hf := it hf c13
            refine lv_lload_n hx hb dX4_ladder_52 rfl (lv_at hl 3 rfl) ?_
            refine lv_lload hx hb dX4_ladder_53 (lv_at hl 0 rfl) ?_
            refine lv_ladd hx hb dX4_ladder_55 ?_
            refine lv_topl (fun x14 ex14 => ?_)
            have hf := bd_s hf ex14
            refine lv_lstore_n (lv' := [(3, .long x14), (6, .long v12), (0, .ref qk), (2, .int a1), (5, .int x7)]) hx hb dX4_ladder_56 rfl hl (by decide) rfl (fun ls hl => ?_)
            obtain ⟨x15, ex15⟩ : ∃ y : Int32, y = x7 + 1 := ⟨_, rfl⟩
            have hf := bd_s hf ex15
            refine lv_iinc (v := x15) (lv' := [(5, .int x15), (3, .long x14), (6, .long v12), (0, .ref qk), (2, .int a1)]) hx hb dX4_ladder_57 hl (k := 4) rfl (by rw [ex15]; rfl) (by decide) rfl (fun ls hl => ?_)
            refine lv_goto (tgt := 29) hx hb dX4_ladder_60 (by decide) ?_
            exact ih10 x14 x15 ls (lv_sub hl [3, 4, 1, 0] rfl) hf
          · have hf := ie hf c13
            refine lv_iconst (v := (-1)) hx hb dX4_ladder_50 (by decide) ?_
            refine vx_ret ?_
            refine W.widen (k := 3) (n := 18) (Nat.le_of_ble_eq_true rfl) (Nat.le_of_ble_eq_true rfl) ?_
            exact W.iret hx hb hr (fun t ht _ => ⟨_, rfl, (Option.some.inj hf).symm, ht⟩) (fun q hq => absurd hq List.not_mem_nil) dX4_ladder_51
    exact LP29 N 0 a0 ls (lv_sub hl [2, 4, 1, 0] rfl) hf
  · have hf := ie hf c5
    obtain ⟨sa, hsa⟩ := hT.2.2.1 (278, "to is earlier than from") (by decide +kernel)
    exact vx_throwSW (names := ["java/lang/RuntimeException", "java/lang/Exception"]) (A := (fun _ => False)) hx hb hl0 hown (by decide) (by decide) (hts (.classLink RX4 44 "java/lang/IllegalArgumentException") (by decide +kernel)) (hts (.initialized "java/lang/IllegalArgumentException") (by decide +kernel)) hsa (vx_hat (fun w hw => hts w (atX4_ladder_48 w hw)) thr_ng48 (fun w hw => va_any (thr_ot w hw) (hT.2.2.2 w hw))) (by decide +kernel) hT.1 hT.2.1 va_S.rf (hl.1.trans hml.symm) dX4_ladder_13 dX4_ladder_16 dX4_ladder_17 dX4_ladder_20 dX4_ladder_23 (fun x h => (hte x h).elim) (Nat.le_of_ble_eq_true rfl) (Nat.le_of_ble_eq_true rfl) (Nat.le_of_ble_eq_true rfl) (Nat.le_of_ble_eq_true rfl) hlocks (fun t _ h1 h2 => ⟨(Option.some.inj hf).symm, h1, fun q h3 _ => h2 q h3⟩) (fun z hz => absurd hz List.not_mem_nil) (Nat.le_of_ble_eq_true rfl) (Nat.le_of_ble_eq_true rfl)
theorem inX4_best_X4 : ∀ w ∈ wsX40, w ∈ wsX4_best := by decide +kernel
set_option maxHeartbeats 4000000 in
set_option maxRecDepth 100000 in
theorem m_X4_best (l : Launch) (D : va_G) (cI cJ cO : ClassId) (ah : Nat) (qk : Nat) (qh : Nat) (qb : Nat) (ql : Nat) (ab : Nat → Nat) (as_ : Nat → Nat) (ad : Nat → Nat) (K : Nat → Int32) (kc : Int64) (hol : Nat → Int32) (LG : Nat → Int64) (nb : Nat) (bB : Nat → Nat → Int32) (bS : Nat → Nat → Int32) (bT : Nat → Nat → Int64) (bn : Nat → Nat) (bds : Nat → Nat → Int32) (a0 : Int32) (N : Nat) (r : Int32 ⊕ String) (hl0 : l.stackTraces = false) (hf : f_X4_best N K nb bB bS bT bn bds a0 = some r) : vx_Met l yX4_best wsX4_best ({ frames := 7, cells := 1, slots := 6, locals := 140 }) (va_Pc [.ref qk, .int a0] (pT (pwB D (ty3 cI cJ cO) (some ah) [eK qk qh qb ql K kc, eG cI qh hol, eF cO qb nb ab, eL ql LG] nb (fam cI ab as_ ad bB bS bT bn bds)))) (QTi r) (XT r) 1 6 (fun _ => False) := by
  refine vx_ofW (cc := cX4_best) (maxL := 7) (ret := (some .int)) (by decide) rfl ?_
  intro p e s m args below meth c s₁ Bd hml hte hv
  obtain ⟨rfl, ⟨⟨hZ, hP, hK⟩, hB⟩, hT⟩ := hv
  have hx := Bd.exec
  have hb := Bd.bytes
  have hr := Bd.returns
  have hts := atoms_spec (ws := wsX4_best) Bd.pre
  have hown : s.vm.findClass RX4 = some m.cls := findClass_of_methodNamed Bd.named
  have hlocks := Bd.notSynchronized
  have hl := lv_entry ([.ref qk, .int a0]) (n := 7) (Nat.le_of_ble_eq_true rfl)
  rw [lg_entry_eq]
  generalize (lg_sl ([.ref qk, .int a0]) ++ List.replicate (7 - (lg_sl ([.ref qk, .int a0])).length) Slot.unset).toArray = ls at hl ⊢
  have hl : lv_has ls 7 [(0, .ref qk), (1, .int a0)] := hl
  unfold f_X4_best at hf
  refine lv_iload_n hx hb dX4_best_0 rfl (lv_at hl 1 rfl) ?_
  obtain ⟨v1, hv1, hf⟩ := exs hf
  refine xSv (vx_runS (As := [.int a0]) (rest := []) ⟨hx, hb, hml, hown, hts⟩ (m_X4_requirePrice l D cI cJ cO ah a0 v1 hl0 hv1) (va_cwS 1 hts gX4_best_X4_requirePrice rfl rfl rfl (by decide +kernel) ⟨(Nat.le_of_ble_eq_true rfl), (Nat.le_of_ble_eq_true rfl)⟩) ⟨pT_blind, fun U hU hW => ⟨rfl, pw_at hZ va_S.rf hP hK hU hW (Or.inr rfl) [] rfl, pX_at hT va_S.rf hU hW⟩⟩ rfl rfl hl.1 rfl (lv_room (Nat.le_of_ble_eq_true rfl)) dX4_best_1 ⟨(Nat.le_of_ble_eq_true rfl), (Nat.le_of_ble_eq_true rfl)⟩) (fun E ce q9 H1 locs1 hE hz9 hk9 hS9 hc9 hv9 hl9 => vx_widen (k := 1) (n := 6) (Nat.le_of_ble_eq_true rfl) (Nat.le_of_ble_eq_true rfl) (vx_out (fun x h => (hte x h).elim) hlocks hc9 hv9 hl9 (fun t ht _ => ⟨ex_r hf hE, by rw [ht]; exact hz9, fun q h3 _ => by rw [ht]; exact hk9 q h3⟩) (fun z hz => absurd hz (by rw [hS9]; exact List.not_mem_nil)) (Nat.le_refl _) (Nat.le_refl _))) (fun v2 ev2 => ?_)
  have hf := ex_l hf ev2
  refine lv_iconst (v := (-1)) hx hb dX4_best_4 (by decide) ?_
  refine lv_topi (fun x3 ex3 => ?_)
  have hf := bd_s hf ex3
  refine lv_istore_n (lv' := [(2, .int x3), (0, .ref qk), (1, .int a0)]) hx hb dX4_best_5 rfl hl (by decide) rfl (fun ls hl => ?_)
  refine lv_iconst (v := (-1)) hx hb dX4_best_6 (by decide) ?_
  refine lv_topi (fun x4 ex4 => ?_)
  have hf := bd_s hf ex4
  refine lv_istore_n (lv' := [(3, .int x4), (2, .int x3), (0, .ref qk), (1, .int a0)]) hx hb dX4_best_7 rfl hl (by decide) rfl (fun ls hl => ?_)
  refine lv_iconst (v := 0) hx hb dX4_best_8 (by decide) ?_
  refine lv_istore (lv' := [(4, .int 0), (3, .int x4), (2, .int x3), (0, .ref qk), (1, .int a0)]) hx hb dX4_best_9 hl (by decide) rfl (fun ls hl => ?_)
  have LP11 : ∀ (n8 : Nat) (x5 : Int32) (x6 : Int32) (x7 : Int32) (ls : Array Slot), lv_has ls 7 [(0, .ref qk), (1, .int a0), (2, .int x5), (3, .int x6), (4, .int x7)] → f_X4_best_L11 nb bB bS K N bT bn bds a0 n8 x5 x6 x7 = some r → W p l e (headSpec wsX4_best ({ frames := 7, cells := 1, slots := 6, locals := 140 })).room s m ([.ref qk, .int a0] : List Value).toArray below meth c s.heap [] 1 6 (vx_MQ below (QTi r) (XT r) ([.ref qk, .int a0] : List Value).toArray s 1 6 (fun _ => False)) (F0 m 11 ls []) := by
    intro n8
    induction n8 with
    | zero => intro x5 x6 x7 ls hl hf; exact (no_s hf).elim
    | succ n8 ih8 =>
      intro x5 x6 x7 ls hl hf
      rw [f_X4_best_L11] at hf
      refine lv_iload hx hb dX4_best_11 (lv_at hl 4 rfl) ?_
      refine lv_aload_n hx hb dX4_best_13 rfl (lv_at hl 0 rfl) ?_
      refine va_get (D := D) (ci := 3) (v := .ref qb) (C := RX4) (T := TX4) (N := 8) hx hb hts inX4_best_X4 hown hK hP 0 rfl rfl 1 (by decide) (hts (.fieldLink RX4 15 "BondDesk" "bonds" "[LBondDesk$Bond;") (by decide +kernel)) (fun _ h9 => h9) rfl dX4_best_14 ?_
      refine va_alen (v := 10) hx hb hK hP 2 2 rfl rfl rfl dX4_best_17 ?_
      refine lv_icmp_ge (tgt := 85) hx hb dX4_best_18 (by decide) (fun c9 => ?_) (fun c9 => ?_)
      · have hf := it hf c9
        refine lv_iload_n hx hb dX4_best_85 rfl (lv_at hl 2 rfl) ?_
        refine vx_ret ?_
        refine W.widen (k := 1) (n := 6) (Nat.le_of_ble_eq_true rfl) (Nat.le_of_ble_eq_true rfl) ?_
        exact W.iret hx hb hr (fun t ht _ => ⟨_, rfl, (Option.some.inj hf).symm, ht⟩) (fun q hq => absurd hq List.not_mem_nil) dX4_best_86
      · have hf := ie hf c9
        refine lv_aload_n hx hb dX4_best_21 rfl (lv_at hl 0 rfl) ?_
        refine va_get (D := D) (ci := 3) (v := .ref qb) (C := RX4) (T := TX4) (N := 8) hx hb hts inX4_best_X4 hown hK hP 0 rfl rfl 1 (by decide) (hts (.fieldLink RX4 15 "BondDesk" "bonds" "[LBondDesk$Bond;") (by decide +kernel)) (fun _ h9 => h9) rfl dX4_best_22 ?_
        refine lv_iload hx hb dX4_best_25 (lv_at hl 4 rfl) ?_
        obtain ⟨c10, hf⟩ := gd_s hf
        refine aldB hx hb hK hP 2 2 rfl rfl c10 dX4_best_27 (fun c11 => ?_) (fun c11 => ?_)
        · have hf := it hf c11
          refine lv_astore (lv' := [(5, .ref (ab x7.toNatClampNeg)), (0, .ref qk), (1, .int a0), (2, .int x5), (3, .int x6), (4, .int x7)]) hx hb dX4_best_28 hl (by decide) rfl (fun ls hl => ?_)
          refine lv_aload hx hb dX4_best_30 (lv_at hl 0 rfl) ?_
          refine lv_ifnull hx hb dX4_best_32 ?_
          refine lv_aload hx hb dX4_best_35 (lv_at hl 0 rfl) ?_
          obtain ⟨v12, hv12, hf⟩ := ob hf
          refine cSz (W.runV (As := []) (rest := []) ⟨hx, hb, hml, hown, hts⟩ (m_X0_isGone l D cI cJ cO ah (ab x7.toNatClampNeg) (as_ x7.toNatClampNeg) (ad x7.toNatClampNeg) (bB x7.toNatClampNeg) (bS x7.toNatClampNeg) (bT x7.toNatClampNeg) (bn x7.toNatClampNeg) (bds x7.toNatClampNeg) v12 hv12) (cwV 0 hts gX4_best_X0_isGone rfl rfl rfl (by decide +kernel) ⟨(Nat.le_of_ble_eq_true rfl), (Nat.le_of_ble_eq_true rfl)⟩) ⟨pw_blind, va_recv hK (hB x7.toNatClampNeg c11) (ci := 0) (q0 := 2) rfl rfl, fun U hU hW => ⟨rfl, pw_at hZ va_S.rf (hB x7.toNatClampNeg c11) hK hU hW (Or.inr rfl) [0, 1, 2] rfl⟩⟩ rfl rfl hl.1 rfl (lv_room (Nat.le_of_ble_eq_true rfl)) dX4_best_37 ⟨(Nat.le_of_ble_eq_true rfl), (Nat.le_of_ble_eq_true rfl)⟩) (fun zv12 => ?_)
          refine lv_if_ne (tgt := 79) hx hb dX4_best_40 (by decide) (fun c13 => ?_) (fun c13 => ?_)
          · have hf := ie hf c13
            obtain ⟨x14, ex14⟩ : ∃ y : Int32, y = x7 + 1 := ⟨_, rfl⟩
            have hf := bd_s hf ex14
            refine lv_iinc (v := x14) (lv' := [(4, .int x14), (5, .ref (ab x7.toNatClampNeg)), (0, .ref qk), (1, .int a0), (2, .int x5), (3, .int x6)]) hx hb dX4_best_79 hl (k := 5) rfl (by rw [ex14]; rfl) (by decide) rfl (fun ls hl => ?_)
            refine lv_goto (tgt := 11) hx hb dX4_best_82 (by decide) ?_
            exact ih8 x5 x6 x14 ls (lv_sub hl [2, 3, 4, 5, 0] rfl) hf
          · have hf := it hf c13
            refine lv_aload hx hb dX4_best_43 (lv_at hl 0 rfl) ?_
            refine lv_aload_n hx hb dX4_best_45 rfl (lv_at hl 1 rfl) ?_
            refine va_get (D := D) (ci := 3) (v := .int (K 5)) (C := RX4) (T := TX4) (N := 8) hx hb hts inX4_best_X4 hown hK hP 0 rfl rfl 5 (by decide) (hts (.fieldLink RX4 27 "BondDesk" "today" "I") (by decide +kernel)) (fun _ h9 => h9) rfl dX4_best_46 ?_
            obtain ⟨v15, hv15, hf⟩ := ob hf
            refine cSz (W.runV (As := [.int (K 5)]) (rest := []) ⟨hx, hb, hml, hown, hts⟩ (m_X0_isIssued l D cI cJ cO ah (ab x7.toNatClampNeg) (as_ x7.toNatClampNeg) (ad x7.toNatClampNeg) (bB x7.toNatClampNeg) (bS x7.toNatClampNeg) (bT x7.toNatClampNeg) (bn x7.toNatClampNeg) (bds x7.toNatClampNeg) (K 5) v15 hv15) (cwV 1 hts gX4_best_X0_isIssued rfl rfl rfl (by decide +kernel) ⟨(Nat.le_of_ble_eq_true rfl), (Nat.le_of_ble_eq_true rfl)⟩) ⟨pw_blind, va_recv hK (hB x7.toNatClampNeg c11) (ci := 0) (q0 := 2) rfl rfl, fun U hU hW => ⟨rfl, pw_at hZ va_S.rf (hB x7.toNatClampNeg c11) hK hU hW (Or.inr rfl) [0, 1, 2] rfl⟩⟩ rfl rfl hl.1 rfl (lv_room (Nat.le_of_ble_eq_true rfl)) dX4_best_49 ⟨(Nat.le_of_ble_eq_true rfl), (Nat.le_of_ble_eq_true rfl)⟩) (fun zv15 => ?_)
            refine lv_if_eq (tgt := 79) hx hb dX4_best_52 (by decide) (fun c16 => ?_) (fun c16 => ?_)
            · have hf := it hf c16
              obtain ⟨x17, ex17⟩ : ∃ y : Int32, y = x7 + 1 := ⟨_, rfl⟩
              have hf := bd_s hf ex17
              refine lv_iinc (v := x17) (lv' := [(4, .int x17), (5, .ref (ab x7.toNatClampNeg)), (0, .ref qk), (1, .int a0), (2, .int x5), (3, .int x6)]) hx hb dX4_best_79 hl (k := 5) rfl (by rw [ex17]; rfl) (by decide) rfl (fun ls hl => ?_)
              refine lv_goto (tgt := 11) hx hb dX4_best_82 (by decide) ?_
              exact ih8 x5 x6 x17 ls (lv_sub hl [2, 3, 4, 5, 0] rfl) hf
            · have hf := ie hf c16
              refine lv_aload hx hb dX4_best_55 (lv_at hl 0 rfl) ?_
              refine lv_aload_n hx hb dX4_best_57 rfl (lv_at hl 1 rfl) ?_
              refine va_get (D := D) (ci := 3) (v := .int (K 5)) (C := RX4) (T := TX4) (N := 8) hx hb hts inX4_best_X4 hown hK hP 0 rfl rfl 5 (by decide) (hts (.fieldLink RX4 27 "BondDesk" "today" "I") (by decide +kernel)) (fun _ h9 => h9) rfl dX4_best_58 ?_
              refine lv_iload_n hx hb dX4_best_61 rfl (lv_at hl 2 rfl) ?_
              obtain ⟨v18, hv18, hf⟩ := ob hf
              refine cSi (W.runV (As := [.int (K 5), .int a0]) (rest := []) ⟨hx, hb, hml, hown, hts⟩ (m_X0_yieldAt l D cI cJ cO ah (ab x7.toNatClampNeg) (as_ x7.toNatClampNeg) (ad x7.toNatClampNeg) (bB x7.toNatClampNeg) (bS x7.toNatClampNeg) (bT x7.toNatClampNeg) (bn x7.toNatClampNeg) (bds x7.toNatClampNeg) (K 5) a0 N v18 hv18) (cwV 2 hts gX4_best_X0_yieldAt rfl rfl rfl (by decide +kernel) ⟨(Nat.le_of_ble_eq_true rfl), (Nat.le_of_ble_eq_true rfl)⟩) ⟨pw_blind, va_recv hK (hB x7.toNatClampNeg c11) (ci := 0) (q0 := 2) rfl rfl, fun U hU hW => ⟨rfl, pw_at hZ va_S.rf (hB x7.toNatClampNeg c11) hK hU hW (Or.inr rfl) [0, 1, 2] rfl⟩⟩ rfl rfl hl.1 rfl (lv_room (Nat.le_of_ble_eq_true rfl)) dX4_best_62 ⟨(Nat.le_of_ble_eq_true rfl), (Nat.le_of_ble_eq_true rfl)⟩) ?_
              refine lv_istore (lv' := [(6, .int v18), (5, .ref (ab x7.toNatClampNeg)), (0, .ref qk), (1, .int a0), (2, .int x5), (3, .int x6), (4, .int x7)]) hx hb dX4_best_65 hl (by decide) rfl (fun ls hl => ?_)
              refine lv_iload hx hb dX4_best_67 (lv_at hl 0 rfl) ?_
              refine lv_iload_n hx hb dX4_best_69 rfl (lv_at hl 5 rfl) ?_
              refine lv_icmp_le (tgt := 79) hx hb dX4_best_70 (by decide) (fun c19 => ?_) (fun c19 => ?_)
              · have hf := it hf c19
                obtain ⟨x20, ex20⟩ : ∃ y : Int32, y = x7 + 1 := ⟨_, rfl⟩
                have hf := bd_s hf ex20
                refine lv_iinc (v := x20) (lv' := [(4, .int x20), (6, .int v18), (5, .ref (ab x7.toNatClampNeg)), (0, .ref qk), (1, .int a0), (2, .int x5), (3, .int x6)]) hx hb dX4_best_79 hl (k := 6) rfl (by rw [ex20]; rfl) (by decide) rfl (fun ls hl => ?_)
                refine lv_goto (tgt := 11) hx hb dX4_best_82 (by decide) ?_
                exact ih8 x5 x6 x20 ls (lv_sub hl [3, 4, 5, 6, 0] rfl) hf
              · have hf := ie hf c19
                refine lv_iload hx hb dX4_best_73 (lv_at hl 6 rfl) ?_
                refine lv_istore_n (lv' := [(2, .int x7), (6, .int v18), (5, .ref (ab x7.toNatClampNeg)), (0, .ref qk), (1, .int a0), (3, .int x6), (4, .int x7)]) hx hb dX4_best_75 rfl hl (by decide) rfl (fun ls hl => ?_)
                refine lv_iload hx hb dX4_best_76 (lv_at hl 1 rfl) ?_
                refine lv_istore_n (lv' := [(3, .int v18), (2, .int x7), (6, .int v18), (5, .ref (ab x7.toNatClampNeg)), (0, .ref qk), (1, .int a0), (4, .int x7)]) hx hb dX4_best_78 rfl hl (by decide) rfl (fun ls hl => ?_)
                obtain ⟨x21, ex21⟩ : ∃ y : Int32, y = x7 + 1 := ⟨_, rfl⟩
                have hf := bd_s hf ex21
                refine lv_iinc (v := x21) (lv' := [(4, .int x21), (3, .int v18), (2, .int x7), (6, .int v18), (5, .ref (ab x7.toNatClampNeg)), (0, .ref qk), (1, .int a0)]) hx hb dX4_best_79 hl (k := 6) rfl (by rw [ex21]; rfl) (by decide) rfl (fun ls hl => ?_)
                refine lv_goto (tgt := 11) hx hb dX4_best_82 (by decide) ?_
                exact ih8 x7 v18 x21 ls (lv_sub hl [5, 6, 2, 1, 0] rfl) hf
        · have hf := ie hf c11
          refine lv_astoreN (lv' := [(5, .null), (0, .ref qk), (1, .int a0), (2, .int x5), (3, .int x6), (4, .int x7)]) hx hb dX4_best_28 hl (by decide) rfl (fun ls hl => ?_)
          refine lv_aloadN hx hb dX4_best_30 (lv_at hl 0 rfl) ?_
          refine lv_ifnullN (tgt := 79) hx hb dX4_best_32 (by decide) ?_
          obtain ⟨x22, ex22⟩ : ∃ y : Int32, y = x7 + 1 := ⟨_, rfl⟩
          have hf := bd_s hf ex22
          refine lv_iinc (v := x22) (lv' := [(4, .int x22), (5, .null), (0, .ref qk), (1, .int a0), (2, .int x5), (3, .int x6)]) hx hb dX4_best_79 hl (k := 5) rfl (by rw [ex22]; rfl) (by decide) rfl (fun ls hl => ?_)
          refine lv_goto (tgt := 11) hx hb dX4_best_82 (by decide) ?_
          exact ih8 x5 x6 x22 ls (lv_sub hl [2, 3, 4, 5, 0] rfl) hf
  exact LP11 N x3 x4 0 ls (lv_sub hl [3, 4, 2, 1, 0] rfl) hf
theorem inX4_setRate_X4 : ∀ w ∈ wsX40, w ∈ wsX4_setRate := by decide +kernel
set_option maxHeartbeats 4000000 in
set_option maxRecDepth 100000 in
theorem m_X4_setRate (l : Launch) (D : va_G) (cI cJ cO : ClassId) (ah : Nat) (qk : Nat) (qh : Nat) (qb : Nat) (ql : Nat) (ab : Nat → Nat) (K : Nat → Int32) (kc : Int64) (hol : Nat → Int32) (LG : Nat → Int64) (nb : Nat) (sz : Nat) (a0 : Int32) (r : (Int32 × (Nat → Int32)) ⊕ String) (hl0 : l.stackTraces = false) (hf : f_X4_setRate K a0 = some r) : vx_Met l yX4_setRate wsX4_setRate ({ frames := 7, cells := 1, slots := 6, locals := 102 }) (va_Pc [.ref qk, .int a0] (tP D (ty3 cI cJ cO) (some ah) [eK qk qh qb ql K kc, eG cI qh hol, eF cO qb nb ab, eL ql LG] sz)) (tQi D (va_A [eK qk qh qb ql K kc, eG cI qh hol, eF cO qb nb ab, eL ql LG] sz) r (fun u => u.1) (fun u => [eK qk qh qb ql u.2 kc, eG cI qh hol, eF cO qb nb ab, eL ql LG])) (XT r) 1 6 (va_A [eK qk qh qb ql K kc, eG cI qh hol, eF cO qb nb ab, eL ql LG] sz) := by
  refine vx_ofW (cc := cX4_setRate) (maxL := 3) (ret := (some .int)) (by decide) rfl ?_
  intro p e s m args below meth c s₁ Bd hml hte hv
  obtain ⟨rfl, ⟨hsz, hZ, hP, hK, hD0⟩, hT⟩ := hv
  have hx := Bd.exec
  have hb := Bd.bytes
  have hr := Bd.returns
  have hts := atoms_spec (ws := wsX4_setRate) Bd.pre
  have hown : s.vm.findClass RX4 = some m.cls := findClass_of_methodNamed Bd.named
  have hlocks := Bd.notSynchronized
  subst hsz
  have hD := hD0.self (sz := s.heap.size)
  generalize hAe : va_A [eK qk qh qb ql K kc, eG cI qh hol, eF cO qb nb ab, eL ql LG] s.heap.size = A at hD hZ hT ⊢
  have hA : ∀ q : Nat, s.heap.size ≤ q → A q := fun q h => by rw [← hAe]; exact Or.inr h
  have hS : va_S A s.heap s.heap [] := va_S.rf
  have hl := lv_entry ([.ref qk, .int a0]) (n := 3) (Nat.le_of_ble_eq_true rfl)
  rw [lg_entry_eq]
  generalize (lg_sl ([.ref qk, .int a0]) ++ List.replicate (3 - (lg_sl ([.ref qk, .int a0])).length) Slot.unset).toArray = ls at hl ⊢
  have hl : lv_has ls 3 [(0, .ref qk), (1, .int a0)] := hl
  unfold f_X4_setRate at hf
  refine lv_iload_n hx hb dX4_setRate_0 rfl (lv_at hl 1 rfl) ?_
  obtain ⟨v1, hv1, hf⟩ := exs hf
  refine xSv (vx_runS (As := [.int a0]) (rest := []) ⟨hx, hb, hml, hown, hts⟩ (m_X4_requireRate l D cI cJ cO ah a0 v1 hl0 hv1) (va_cwS 1 hts gX4_setRate_X4_requireRate rfl rfl rfl (by decide +kernel) ⟨(Nat.le_of_ble_eq_true rfl), (Nat.le_of_ble_eq_true rfl)⟩) ⟨pT_blind, fun U hU hW => ⟨rfl, pw_at hZ hS hP hK hU hW (Or.inr rfl) [] rfl, pX_at hT hS hU hW⟩⟩ rfl rfl hl.1 rfl (lv_room (Nat.le_of_ble_eq_true rfl)) dX4_setRate_1 ⟨(Nat.le_of_ble_eq_true rfl), (Nat.le_of_ble_eq_true rfl)⟩) (fun E ce q9 H1 locs1 hE hz9 hk9 hS9 hc9 hv9 hl9 => vx_widen (k := 1) (n := 6) (Nat.le_of_ble_eq_true rfl) (Nat.le_of_ble_eq_true rfl) (vx_out (fun x h => (hte x h).elim) hlocks hc9 hv9 hl9 (fun t ht _ => ⟨ex_r hf hE, by rw [ht]; exact hz9, fun q h3 _ => by rw [ht]; exact hk9 q h3⟩) (fun z hz => absurd hz (by rw [hS9]; exact List.not_mem_nil)) (Nat.le_refl _) (Nat.le_refl _))) (fun v2 ev2 => ?_)
  have hf := ex_l hf ev2
  refine lv_aload_n hx hb dX4_setRate_4 rfl (lv_at hl 0 rfl) ?_
  refine va_get (D := D) (ci := 3) (v := .int (K 7)) (C := RX4) (T := TX4) (N := 8) hx hb hts inX4_setRate_X4 hown hK hP 0 rfl rfl 7 (by decide) (hts (.fieldLink RX4 37 "BondDesk" "refinancing" "I") (by decide +kernel)) (fun _ h9 => h9) rfl dX4_setRate_5 ?_
  refine lv_topi (fun x3 ex3 => ?_)
  have hf := bd_s hf ex3
  refine lv_istore_n (lv' := [(2, .int x3), (0, .ref qk), (1, .int a0)]) hx hb dX4_setRate_8 rfl hl (by decide) rfl (fun ls hl => ?_)
  refine lv_aload_n hx hb dX4_setRate_9 rfl (lv_at hl 1 rfl) ?_
  refine lv_iload_n hx hb dX4_setRate_10 rfl (lv_at hl 2 rfl) ?_
  refine va_put (D := D) (ci := 3) (v := .int a0) (ty := .int) (C := RX4) (T := TX4) (N := 8) hx hb hts inX4_setRate_X4 tyX4 tyX4_ok nmX4 hown hK hP hD hS 0 rfl rfl 7 (by decide) (hts (.fieldLink RX4 37 "BondDesk" "refinancing" "I") (by decide +kernel)) (fun _ h9 => h9) rfl (by decide +kernel) rfl rfl (Nat.le_of_ble_eq_true rfl) dX4_setRate_11 (fun H locs hP hD hS => ?_)
  have hP : va_P D vwCl [eK qk qh qb ql (va_up K 7 a0) kc, eG cI qh hol, eF cO qb nb ab, eL ql LG] H := hP
  have hD : va_D A [eK qk qh qb ql (va_up K 7 a0) kc, eG cI qh hol, eF cO qb nb ab, eL ql LG] := hD
  refine lv_iload_n hx hb dX4_setRate_14 rfl (lv_at hl 0 rfl) ?_
  refine vx_ret ?_
  refine W.widen (k := 1) (n := 6) (Nat.le_of_ble_eq_true rfl) (Nat.le_of_ble_eq_true rfl) ?_
  have e9 := Option.some.inj hf
  subst e9
  exact W.iret hx hb hr (fun t ht hW => ⟨_, rfl, rfl, by rw [ht]; exact hP, hD, hS.F ht⟩) hS.2.2 dX4_setRate_15
theorem inX4_addHoliday_X4 : ∀ w ∈ wsX40, w ∈ wsX4_addHoliday := by decide +kernel
theorem atX4_addHoliday_77 : ∀ w ∈ (vx_atS RX4 77 "java/lang/IllegalStateException" ["java/lang/RuntimeException", "java/lang/Exception"]).filter goodWord, w ∈ wsX4_addHoliday := by decide +kernel
set_option maxHeartbeats 4000000 in
set_option maxRecDepth 100000 in
theorem m_X4_addHoliday (l : Launch) (D : va_G) (cI cJ cO : ClassId) (ah : Nat) (qk : Nat) (qh : Nat) (qb : Nat) (ql : Nat) (ab : Nat → Nat) (K : Nat → Int32) (kc : Int64) (hol : Nat → Int32) (LG : Nat → Int64) (nb : Nat) (sz : Nat) (a0 : Int32) (N : Nat) (r : (Int32 × (Nat → Int32) × (Nat → Int32)) ⊕ String) (hl0 : l.stackTraces = false) (hf : f_X4_addHoliday N K hol a0 = some r) : vx_Met l yX4_addHoliday wsX4_addHoliday ({ frames := 7, cells := 2, slots := 12, locals := 102 }) (va_Pc [.ref qk, .int a0] (tP D (ty3 cI cJ cO) (some ah) [eK qk qh qb ql K kc, eG cI qh hol, eF cO qb nb ab, eL ql LG] sz)) (tQi D (va_A [eK qk qh qb ql K kc, eG cI qh hol, eF cO qb nb ab, eL ql LG] sz) r (fun u => u.1) (fun u => [eK qk qh qb ql u.2.1 kc, eG cI qh u.2.2, eF cO qb nb ab, eL ql LG])) (XT r) 2 12 (va_A [eK qk qh qb ql K kc, eG cI qh hol, eF cO qb nb ab, eL ql LG] sz) := by
  refine vx_ofW (cc := cX4_addHoliday) (maxL := 2) (ret := (some .int)) (by decide) rfl ?_
  intro p e s m args below meth c s₁ Bd hml hte hv
  obtain ⟨rfl, ⟨hsz, hZ, hP, hK, hD0⟩, hT⟩ := hv
  have hx := Bd.exec
  have hb := Bd.bytes
  have hr := Bd.returns
  have hts := atoms_spec (ws := wsX4_addHoliday) Bd.pre
  have hown : s.vm.findClass RX4 = some m.cls := findClass_of_methodNamed Bd.named
  have hlocks := Bd.notSynchronized
  subst hsz
  have hD := hD0.self (sz := s.heap.size)
  generalize hAe : va_A [eK qk qh qb ql K kc, eG cI qh hol, eF cO qb nb ab, eL ql LG] s.heap.size = A at hD hZ hT ⊢
  have hA : ∀ q : Nat, s.heap.size ≤ q → A q := fun q h => by rw [← hAe]; exact Or.inr h
  have hS : va_S A s.heap s.heap [] := va_S.rf
  have hl := lv_entry ([.ref qk, .int a0]) (n := 2) (Nat.le_of_ble_eq_true rfl)
  rw [lg_entry_eq]
  generalize (lg_sl ([.ref qk, .int a0]) ++ List.replicate (2 - (lg_sl ([.ref qk, .int a0])).length) Slot.unset).toArray = ls at hl ⊢
  have hl : lv_has ls 2 [(0, .ref qk), (1, .int a0)] := hl
  unfold f_X4_addHoliday at hf
  refine lv_iload_n hx hb dX4_addHoliday_0 rfl (lv_at hl 1 rfl) ?_
  obtain ⟨v1, hv1, hf⟩ := exs hf
  refine xSv (vx_runS (As := [.int a0]) (rest := []) ⟨hx, hb, hml, hown, hts⟩ (m_X4_requireDate l D cI cJ cO ah a0 v1 hl0 hv1) (va_cwS 1 hts gX4_addHoliday_X4_requireDate rfl rfl rfl (by decide +kernel) ⟨(Nat.le_of_ble_eq_true rfl), (Nat.le_of_ble_eq_true rfl)⟩) ⟨pT_blind, fun U hU hW => ⟨rfl, pw_at hZ hS hP hK hU hW (Or.inr rfl) [] rfl, pX_at hT hS hU hW⟩⟩ rfl rfl hl.1 rfl (lv_room (Nat.le_of_ble_eq_true rfl)) dX4_addHoliday_1 ⟨(Nat.le_of_ble_eq_true rfl), (Nat.le_of_ble_eq_true rfl)⟩) (fun E ce q9 H1 locs1 hE hz9 hk9 hS9 hc9 hv9 hl9 => vx_widen (k := 2) (n := 12) (Nat.le_of_ble_eq_true rfl) (Nat.le_of_ble_eq_true rfl) (vx_out (fun x h => (hte x h).elim) hlocks hc9 hv9 hl9 (fun t ht _ => ⟨ex_r hf hE, by rw [ht]; exact hz9, fun q h3 _ => by rw [ht]; exact hk9 q h3⟩) (fun z hz => absurd hz (by rw [hS9]; exact List.not_mem_nil)) (Nat.le_refl _) (Nat.le_refl _))) (fun v2 ev2 => ?_)
  have hf := ex_l hf ev2
  refine lv_aload_n hx hb dX4_addHoliday_4 rfl (lv_at hl 0 rfl) ?_
  refine lv_iload_n hx hb dX4_addHoliday_5 rfl (lv_at hl 1 rfl) ?_
  obtain ⟨v3, hv3, hf⟩ := ob hf
  refine cSz (W.runV (As := [.int a0]) (rest := []) ⟨hx, hb, hml, hown, hts⟩ (m_X4_isHoliday l D cI cJ cO ah qk qh qb ql ab K kc hol LG nb a0 N v3 hv3) (cwV 1 hts gX4_addHoliday_X4_isHoliday rfl rfl rfl (by decide +kernel) ⟨(Nat.le_of_ble_eq_true rfl), (Nat.le_of_ble_eq_true rfl)⟩) ⟨pw_blind, va_recv hK hP (ci := 3) (q0 := 0) rfl rfl, fun U hU hW => ⟨rfl, pw_at hZ hS hP hK hU hW (Or.inr rfl) [0, 1, 2, 3] rfl⟩⟩ rfl rfl hl.1 rfl (lv_room (Nat.le_of_ble_eq_true rfl)) dX4_addHoliday_6 ⟨(Nat.le_of_ble_eq_true rfl), (Nat.le_of_ble_eq_true rfl)⟩) (fun zv3 => ?_)
  refine lv_if_eq (tgt := 17) hx hb dX4_addHoliday_9 (by decide) (fun c4 => ?_) (fun c4 => ?_)
  · have hf := it hf c4
    refine lv_aload_n hx hb dX4_addHoliday_17 rfl (lv_at hl 0 rfl) ?_
    refine va_get (D := D) (ci := 3) (v := .int (K 3)) (C := RX4) (T := TX4) (N := 8) hx hb hts inX4_addHoliday_X4 hown hK hP 0 rfl rfl 3 (by decide) (hts (.fieldLink RX4 70 "BondDesk" "holidayCount" "I") (by decide +kernel)) (fun _ h9 => h9) rfl dX4_addHoliday_18 ?_
    refine lv_if_lt (tgt := 36) hx hb dX4_addHoliday_21 (by decide) (fun c5 => ?_) (fun c5 => ?_)
    · have hf := it hf c5
      obtain ⟨sa, hsa⟩ := hT.2.2.1 (75, "there are 30 holidays") (by decide +kernel)
      exact vx_throwS (names := ["java/lang/RuntimeException", "java/lang/Exception"]) (A := A) hx hb hl0 hown (by decide) (by decide) (hts (.classLink RX4 73 "java/lang/IllegalStateException") (by decide +kernel)) (hts (.initialized "java/lang/IllegalStateException") (by decide +kernel)) hsa (vx_hat (fun w hw => hts w (atX4_addHoliday_77 w hw)) thr_ng77 (fun w hw => va_any (thr_ot w hw) (hT.2.2.2 w hw))) (by decide +kernel) hT.1 hT.2.1 va_S.rf (hl.1.trans hml.symm) dX4_addHoliday_36 dX4_addHoliday_39 dX4_addHoliday_40 dX4_addHoliday_42 dX4_addHoliday_45 (fun x h => (hte x h).elim) (Nat.le_of_ble_eq_true rfl) (Nat.le_of_ble_eq_true rfl) (Nat.le_of_ble_eq_true rfl) (Nat.le_of_ble_eq_true rfl) hlocks (fun t _ h1 h2 => ⟨(Option.some.inj hf).symm, h1, fun q h3 _ => h2 q h3⟩) (fun z hz => absurd hz List.not_mem_nil) (Nat.le_of_ble_eq_true rfl) (Nat.le_of_ble_eq_true rfl)
    · have hf := ie hf c5
      refine lv_aload_n hx hb dX4_addHoliday_24 rfl (lv_at hl 0 rfl) ?_
      refine va_get (D := D) (ci := 3) (v := .int (K 3)) (C := RX4) (T := TX4) (N := 8) hx hb hts inX4_addHoliday_X4 hown hK hP 0 rfl rfl 3 (by decide) (hts (.fieldLink RX4 70 "BondDesk" "holidayCount" "I") (by decide +kernel)) (fun _ h9 => h9) rfl dX4_addHoliday_25 ?_
      refine lv_aload_n hx hb dX4_addHoliday_28 rfl (lv_at hl 0 rfl) ?_
      refine va_get (D := D) (ci := 3) (v := .ref qh) (C := RX4) (T := TX4) (N := 8) hx hb hts inX4_addHoliday_X4 hown hK hP 0 rfl rfl 0 (by decide) (hts (.fieldLink RX4 9 "BondDesk" "holidays" "[I") (by decide +kernel)) (fun _ h9 => h9) rfl dX4_addHoliday_29 ?_
      refine va_alen (v := 30) hx hb hK hP 1 0 rfl rfl rfl dX4_addHoliday_32 ?_
      refine lv_icmp_lt (tgt := 46) hx hb dX4_addHoliday_33 (by decide) (fun c6 => ?_) (fun c6 => ?_)
      · have hf := it hf c6
        refine lv_aload_n hx hb dX4_addHoliday_46 rfl (lv_at hl 0 rfl) ?_
        refine va_get (D := D) (ci := 3) (v := .ref qh) (C := RX4) (T := TX4) (N := 8) hx hb hts inX4_addHoliday_X4 hown hK hP 0 rfl rfl 0 (by decide) (hts (.fieldLink RX4 9 "BondDesk" "holidays" "[I") (by decide +kernel)) (fun _ h9 => h9) rfl dX4_addHoliday_47 ?_
        refine lv_aload_n hx hb dX4_addHoliday_50 rfl (lv_at hl 0 rfl) ?_
        refine va_get (D := D) (ci := 3) (v := .int (K 3)) (C := RX4) (T := TX4) (N := 8) hx hb hts inX4_addHoliday_X4 hown hK hP 0 rfl rfl 3 (by decide) (hts (.fieldLink RX4 70 "BondDesk" "holidayCount" "I") (by decide +kernel)) (fun _ h9 => h9) rfl dX4_addHoliday_51 ?_
        refine lv_iload_n hx hb dX4_addHoliday_54 rfl (lv_at hl 1 rfl) ?_
        obtain ⟨c7, hf⟩ := gd_s hf
        refine va_iast hx hb hK hP hD hS 1 0 rfl rfl c7 dX4_addHoliday_55 (fun H locs hP hD hS => ?_)
        obtain ⟨w8, ew8⟩ : ∃ z, z = upd hol (K 3).toNatClampNeg a0 := ⟨_, rfl⟩
        have hf := bd_s hf ew8
        rw [← ew8] at hP hD
        have hP : va_P D vwCl [eK qk qh qb ql K kc, eG cI qh w8, eF cO qb nb ab, eL ql LG] H := hP
        have hD : va_D A [eK qk qh qb ql K kc, eG cI qh w8, eF cO qb nb ab, eL ql LG] := hD
        refine lv_aload_n hx hb dX4_addHoliday_56 rfl (lv_at hl 0 rfl) ?_
        refine lv_dup hx hb dX4_addHoliday_57 rfl ?_
        refine va_get (D := D) (ci := 3) (v := .int (K 3)) (C := RX4) (T := TX4) (N := 8) hx hb hts inX4_addHoliday_X4 hown hK hP 0 rfl rfl 3 (by decide) (hts (.fieldLink RX4 70 "BondDesk" "holidayCount" "I") (by decide +kernel)) (fun _ h9 => h9) rfl dX4_addHoliday_58 ?_
        refine lv_iconst (v := 1) hx hb dX4_addHoliday_61 (by decide) ?_
        refine lv_iadd hx hb dX4_addHoliday_62 ?_
        refine lv_topi (fun x9 ex9 => ?_)
        have hf := bd_s hf ex9
        refine va_put (D := D) (ci := 3) (v := .int x9) (ty := .int) (C := RX4) (T := TX4) (N := 8) hx hb hts inX4_addHoliday_X4 tyX4 tyX4_ok nmX4 hown hK hP hD hS 0 rfl rfl 3 (by decide) (hts (.fieldLink RX4 70 "BondDesk" "holidayCount" "I") (by decide +kernel)) (fun _ h9 => h9) rfl (by decide +kernel) rfl rfl (Nat.le_of_ble_eq_true rfl) dX4_addHoliday_63 (fun H locs hP hD hS => ?_)
        have hP : va_P D vwCl [eK qk qh qb ql (va_up K 3 x9) kc, eG cI qh w8, eF cO qb nb ab, eL ql LG] H := hP
        have hD : va_D A [eK qk qh qb ql (va_up K 3 x9) kc, eG cI qh w8, eF cO qb nb ab, eL ql LG] := hD
        refine lv_aload_n hx hb dX4_addHoliday_66 rfl (lv_at hl 0 rfl) ?_
        refine va_get (D := D) (ci := 3) (v := .int x9) (C := RX4) (T := TX4) (N := 8) hx hb hts inX4_addHoliday_X4 hown hK hP 0 rfl rfl 3 (by decide) (hts (.fieldLink RX4 70 "BondDesk" "holidayCount" "I") (by decide +kernel)) (fun _ h9 => h9) rfl dX4_addHoliday_67 ?_
        refine vx_ret ?_
        refine W.widen (k := 2) (n := 12) (Nat.le_of_ble_eq_true rfl) (Nat.le_of_ble_eq_true rfl) ?_
        have e9 := Option.some.inj hf
        subst e9
        exact W.iret hx hb hr (fun t ht hW => ⟨_, rfl, rfl, by rw [ht]; exact hP, hD, hS.F ht⟩) hS.2.2 dX4_addHoliday_70
      · have hf := ie hf c6
        obtain ⟨sa, hsa⟩ := hT.2.2.1 (75, "there are 30 holidays") (by decide +kernel)
        exact vx_throwS (names := ["java/lang/RuntimeException", "java/lang/Exception"]) (A := A) hx hb hl0 hown (by decide) (by decide) (hts (.classLink RX4 73 "java/lang/IllegalStateException") (by decide +kernel)) (hts (.initialized "java/lang/IllegalStateException") (by decide +kernel)) hsa (vx_hat (fun w hw => hts w (atX4_addHoliday_77 w hw)) thr_ng77 (fun w hw => va_any (thr_ot w hw) (hT.2.2.2 w hw))) (by decide +kernel) hT.1 hT.2.1 va_S.rf (hl.1.trans hml.symm) dX4_addHoliday_36 dX4_addHoliday_39 dX4_addHoliday_40 dX4_addHoliday_42 dX4_addHoliday_45 (fun x h => (hte x h).elim) (Nat.le_of_ble_eq_true rfl) (Nat.le_of_ble_eq_true rfl) (Nat.le_of_ble_eq_true rfl) (Nat.le_of_ble_eq_true rfl) hlocks (fun t _ h1 h2 => ⟨(Option.some.inj hf).symm, h1, fun q h3 _ => h2 q h3⟩) (fun z hz => absurd hz List.not_mem_nil) (Nat.le_of_ble_eq_true rfl) (Nat.le_of_ble_eq_true rfl)
  · have hf := ie hf c4
    refine lv_aload_n hx hb dX4_addHoliday_12 rfl (lv_at hl 0 rfl) ?_
    refine va_get (D := D) (ci := 3) (v := .int (K 3)) (C := RX4) (T := TX4) (N := 8) hx hb hts inX4_addHoliday_X4 hown hK hP 0 rfl rfl 3 (by decide) (hts (.fieldLink RX4 70 "BondDesk" "holidayCount" "I") (by decide +kernel)) (fun _ h9 => h9) rfl dX4_addHoliday_13 ?_
    refine vx_ret ?_
    refine W.widen (k := 2) (n := 12) (Nat.le_of_ble_eq_true rfl) (Nat.le_of_ble_eq_true rfl) ?_
    have e9 := Option.some.inj hf
    subst e9
    exact W.iret hx hb hr (fun t ht hW => ⟨_, rfl, rfl, by rw [ht]; exact hP, hD, hS.F ht⟩) hS.2.2 dX4_addHoliday_16
