def f_X1_yearOf (a0 : Int32) : Option Int32 :=
  some (a0 / 10000)
set_option maxHeartbeats 4000000 in
set_option maxRecDepth 100000 in
theorem m_X1_yearOf (l : Launch) (D : va_G) (cI cJ cO : ClassId) (ah : Nat)  (a0 : Int32) (r : Int32) (hf : f_X1_yearOf a0 = some r) : Met l yX1_yearOf wsX1_yearOf ({ frames := 0, cells := 0, slots := 0, locals := 0 }) (va_Pc [.int a0] (pw D (ty3 cI cJ cO) (some ah) [])) (QSi r) 0 0 (fun _ => False) := by
  refine Met.ofW (cc := cX1_yearOf) (maxL := 1) (ret := (some .int)) (by decide) rfl ?_
  intro p e s m args below meth c s₁ Bd hml hv
  obtain ⟨rfl, hZ, hP, hK⟩ := hv
  have hx := Bd.exec
  have hb := Bd.bytes
  have hr := Bd.returns
  have hts := atoms_spec (ws := wsX1_yearOf) Bd.pre
  have hown : s.vm.findClass RX1 = some m.cls := findClass_of_methodNamed Bd.named
  have hlocks := Bd.notSynchronized
  have hl := lv_entry ([.int a0]) (n := 1) (Nat.le_of_ble_eq_true rfl)
  rw [lg_entry_eq]
  generalize (lg_sl ([.int a0]) ++ List.replicate (1 - (lg_sl ([.int a0])).length) Slot.unset).toArray = ls at hl ⊢
  have hl : lv_has ls 1 [(0, .int a0)] := hl
  unfold f_X1_yearOf at hf
  refine lv_iload_n hx hb dX1_yearOf_0 rfl (lv_at hl 0 rfl) ?_
  refine lv_sipush (v := 10000) hx hb dX1_yearOf_1 (by decide) ?_
  refine lv_idiv hx hb dX1_yearOf_4 (by decide) ?_
  exact W.iret hx hb hr (fun t ht _ => ⟨_, rfl, Option.some.inj hf, ht⟩) (fun q hq => absurd hq List.not_mem_nil) dX1_yearOf_5
def f_X1_monthOf (a0 : Int32) : Option Int32 :=
  some ((a0 / 100) - (a0 / 100) / 100 * 100)
set_option maxHeartbeats 4000000 in
set_option maxRecDepth 100000 in
theorem m_X1_monthOf (l : Launch) (D : va_G) (cI cJ cO : ClassId) (ah : Nat)  (a0 : Int32) (r : Int32) (hf : f_X1_monthOf a0 = some r) : Met l yX1_monthOf wsX1_monthOf ({ frames := 0, cells := 0, slots := 0, locals := 0 }) (va_Pc [.int a0] (pw D (ty3 cI cJ cO) (some ah) [])) (QSi r) 0 0 (fun _ => False) := by
  refine Met.ofW (cc := cX1_monthOf) (maxL := 1) (ret := (some .int)) (by decide) rfl ?_
  intro p e s m args below meth c s₁ Bd hml hv
  obtain ⟨rfl, hZ, hP, hK⟩ := hv
  have hx := Bd.exec
  have hb := Bd.bytes
  have hr := Bd.returns
  have hts := atoms_spec (ws := wsX1_monthOf) Bd.pre
  have hown : s.vm.findClass RX1 = some m.cls := findClass_of_methodNamed Bd.named
  have hlocks := Bd.notSynchronized
  have hl := lv_entry ([.int a0]) (n := 1) (Nat.le_of_ble_eq_true rfl)
  rw [lg_entry_eq]
  generalize (lg_sl ([.int a0]) ++ List.replicate (1 - (lg_sl ([.int a0])).length) Slot.unset).toArray = ls at hl ⊢
  have hl : lv_has ls 1 [(0, .int a0)] := hl
  unfold f_X1_monthOf at hf
  refine lv_iload_n hx hb dX1_monthOf_0 rfl (lv_at hl 0 rfl) ?_
  refine lv_bipush (v := 100) hx hb dX1_monthOf_1 (by decide) ?_
  refine lv_idiv hx hb dX1_monthOf_3 (by decide) ?_
  refine lv_bipush (v := 100) hx hb dX1_monthOf_4 (by decide) ?_
  refine lv_irem hx hb dX1_monthOf_6 (by decide) ?_
  exact W.iret hx hb hr (fun t ht _ => ⟨_, rfl, Option.some.inj hf, ht⟩) (fun q hq => absurd hq List.not_mem_nil) dX1_monthOf_7
def f_X1_dayOf (a0 : Int32) : Option Int32 :=
  some (a0 - a0 / 100 * 100)
set_option maxHeartbeats 4000000 in
set_option maxRecDepth 100000 in
theorem m_X1_dayOf (l : Launch) (D : va_G) (cI cJ cO : ClassId) (ah : Nat)  (a0 : Int32) (r : Int32) (hf : f_X1_dayOf a0 = some r) : Met l yX1_dayOf wsX1_dayOf ({ frames := 0, cells := 0, slots := 0, locals := 0 }) (va_Pc [.int a0] (pw D (ty3 cI cJ cO) (some ah) [])) (QSi r) 0 0 (fun _ => False) := by
  refine Met.ofW (cc := cX1_dayOf) (maxL := 1) (ret := (some .int)) (by decide) rfl ?_
  intro p e s m args below meth c s₁ Bd hml hv
  obtain ⟨rfl, hZ, hP, hK⟩ := hv
  have hx := Bd.exec
  have hb := Bd.bytes
  have hr := Bd.returns
  have hts := atoms_spec (ws := wsX1_dayOf) Bd.pre
  have hown : s.vm.findClass RX1 = some m.cls := findClass_of_methodNamed Bd.named
  have hlocks := Bd.notSynchronized
  have hl := lv_entry ([.int a0]) (n := 1) (Nat.le_of_ble_eq_true rfl)
  rw [lg_entry_eq]
  generalize (lg_sl ([.int a0]) ++ List.replicate (1 - (lg_sl ([.int a0])).length) Slot.unset).toArray = ls at hl ⊢
  have hl : lv_has ls 1 [(0, .int a0)] := hl
  unfold f_X1_dayOf at hf
  refine lv_iload_n hx hb dX1_dayOf_0 rfl (lv_at hl 0 rfl) ?_
  refine lv_bipush (v := 100) hx hb dX1_dayOf_1 (by decide) ?_
  refine lv_irem hx hb dX1_dayOf_3 (by decide) ?_
  exact W.iret hx hb hr (fun t ht _ => ⟨_, rfl, Option.some.inj hf, ht⟩) (fun q hq => absurd hq List.not_mem_nil) dX1_dayOf_4
def f_X1_monthLength (a0 : Int32) (a1 : Int32) : Option Int32 :=
  (if a1 = 2 then (if (a0 - a0 / 4 * 4) = 0 then some 29 else some 28) else (if a1 = 4 then some 30 else (if a1 = 6 then some 30 else (if a1 = 9 then some 30 else (if a1 = 11 then some 30 else some 31)))))
set_option maxHeartbeats 4000000 in
set_option maxRecDepth 100000 in
theorem m_X1_monthLength (l : Launch) (D : va_G) (cI cJ cO : ClassId) (ah : Nat)  (a0 : Int32) (a1 : Int32) (r : Int32) (hf : f_X1_monthLength a0 a1 = some r) : Met l yX1_monthLength wsX1_monthLength ({ frames := 0, cells := 0, slots := 0, locals := 0 }) (va_Pc [.int a0, .int a1] (pw D (ty3 cI cJ cO) (some ah) [])) (QSi r) 0 0 (fun _ => False) := by
  refine Met.ofW (cc := cX1_monthLength) (maxL := 2) (ret := (some .int)) (by decide) rfl ?_
  intro p e s m args below meth c s₁ Bd hml hv
  obtain ⟨rfl, hZ, hP, hK⟩ := hv
  have hx := Bd.exec
  have hb := Bd.bytes
  have hr := Bd.returns
  have hts := atoms_spec (ws := wsX1_monthLength) Bd.pre
  have hown : s.vm.findClass RX1 = some m.cls := findClass_of_methodNamed Bd.named
  have hlocks := Bd.notSynchronized
  have hl := lv_entry ([.int a0, .int a1]) (n := 2) (Nat.le_of_ble_eq_true rfl)
  rw [lg_entry_eq]
  generalize (lg_sl ([.int a0, .int a1]) ++ List.replicate (2 - (lg_sl ([.int a0, .int a1])).length) Slot.unset).toArray = ls at hl ⊢
  have hl : lv_has ls 2 [(0, .int a0), (1, .int a1)] := hl
  unfold f_X1_monthLength at hf
  refine lv_iload_n hx hb dX1_monthLength_0 rfl (lv_at hl 1 rfl) ?_
  refine lv_iconst (v := 2) hx hb dX1_monthLength_1 (by decide) ?_
  refine lv_icmp_ne (tgt := 19) hx hb dX1_monthLength_2 (by decide) (fun c1 => ?_) (fun c1 => ?_)
  · have hf := ie hf c1
    refine lv_iload_n hx hb dX1_monthLength_19 rfl (lv_at hl 1 rfl) ?_
    refine lv_iconst (v := 4) hx hb dX1_monthLength_20 (by decide) ?_
    refine lv_icmp_eq (tgt := 42) hx hb dX1_monthLength_21 (by decide) (fun c2 => ?_) (fun c2 => ?_)
    · have hf := it hf c2
      refine lv_bipush (v := 30) hx hb dX1_monthLength_42 (by decide) ?_
      refine lv_goto (tgt := 49) hx hb dX1_monthLength_44 (by decide) ?_
      exact W.iret hx hb hr (fun t ht _ => ⟨_, rfl, Option.some.inj hf, ht⟩) (fun q hq => absurd hq List.not_mem_nil) dX1_monthLength_49
    · have hf := ie hf c2
      refine lv_iload_n hx hb dX1_monthLength_24 rfl (lv_at hl 1 rfl) ?_
      refine lv_bipush (v := 6) hx hb dX1_monthLength_25 (by decide) ?_
      refine lv_icmp_eq (tgt := 42) hx hb dX1_monthLength_27 (by decide) (fun c3 => ?_) (fun c3 => ?_)
      · have hf := it hf c3
        refine lv_bipush (v := 30) hx hb dX1_monthLength_42 (by decide) ?_
        refine lv_goto (tgt := 49) hx hb dX1_monthLength_44 (by decide) ?_
        exact W.iret hx hb hr (fun t ht _ => ⟨_, rfl, Option.some.inj hf, ht⟩) (fun q hq => absurd hq List.not_mem_nil) dX1_monthLength_49
      · have hf := ie hf c3
        refine lv_iload_n hx hb dX1_monthLength_30 rfl (lv_at hl 1 rfl) ?_
        refine lv_bipush (v := 9) hx hb dX1_monthLength_31 (by decide) ?_
        refine lv_icmp_eq (tgt := 42) hx hb dX1_monthLength_33 (by decide) (fun c4 => ?_) (fun c4 => ?_)
        · have hf := it hf c4
          refine lv_bipush (v := 30) hx hb dX1_monthLength_42 (by decide) ?_
          refine lv_goto (tgt := 49) hx hb dX1_monthLength_44 (by decide) ?_
          exact W.iret hx hb hr (fun t ht _ => ⟨_, rfl, Option.some.inj hf, ht⟩) (fun q hq => absurd hq List.not_mem_nil) dX1_monthLength_49
        · have hf := ie hf c4
          refine lv_iload_n hx hb dX1_monthLength_36 rfl (lv_at hl 1 rfl) ?_
          refine lv_bipush (v := 11) hx hb dX1_monthLength_37 (by decide) ?_
          refine lv_icmp_ne (tgt := 47) hx hb dX1_monthLength_39 (by decide) (fun c5 => ?_) (fun c5 => ?_)
          · have hf := ie hf c5
            refine lv_bipush (v := 31) hx hb dX1_monthLength_47 (by decide) ?_
            exact W.iret hx hb hr (fun t ht _ => ⟨_, rfl, Option.some.inj hf, ht⟩) (fun q hq => absurd hq List.not_mem_nil) dX1_monthLength_49
          · have hf := it hf c5
            refine lv_bipush (v := 30) hx hb dX1_monthLength_42 (by decide) ?_
            refine lv_goto (tgt := 49) hx hb dX1_monthLength_44 (by decide) ?_
            exact W.iret hx hb hr (fun t ht _ => ⟨_, rfl, Option.some.inj hf, ht⟩) (fun q hq => absurd hq List.not_mem_nil) dX1_monthLength_49
  · have hf := it hf c1
    refine lv_iload_n hx hb dX1_monthLength_5 rfl (lv_at hl 0 rfl) ?_
    refine lv_iconst (v := 4) hx hb dX1_monthLength_6 (by decide) ?_
    refine lv_irem hx hb dX1_monthLength_7 (by decide) ?_
    refine lv_if_ne (tgt := 16) hx hb dX1_monthLength_8 (by decide) (fun c6 => ?_) (fun c6 => ?_)
    · have hf := ie hf c6
      refine lv_bipush (v := 28) hx hb dX1_monthLength_16 (by decide) ?_
      exact W.iret hx hb hr (fun t ht _ => ⟨_, rfl, Option.some.inj hf, ht⟩) (fun q hq => absurd hq List.not_mem_nil) dX1_monthLength_18
    · have hf := it hf c6
      refine lv_bipush (v := 29) hx hb dX1_monthLength_11 (by decide) ?_
      refine lv_goto (tgt := 18) hx hb dX1_monthLength_13 (by decide) ?_
      exact W.iret hx hb hr (fun t ht _ => ⟨_, rfl, Option.some.inj hf, ht⟩) (fun q hq => absurd hq List.not_mem_nil) dX1_monthLength_18
def f_X1_isDate (a0 : Int32) : Option Int32 :=
  (if a0 < 20160101 then some 0 else (if a0 ≤ 20661231 then (f_X1_monthOf a0).bind fun v3 : Int32 => (f_X1_dayOf a0).bind fun v4 : Int32 => (if v3 < 1 then some 0 else (if 12 < v3 then some 0 else (if v4 < 1 then some 0 else (f_X1_yearOf a0).bind fun v8 : Int32 => (f_X1_monthLength v8 v3).bind fun v9 : Int32 => (if v9 < v4 then some 0 else some 1)))) else some 0))
set_option maxHeartbeats 4000000 in
set_option maxRecDepth 100000 in
theorem m_X1_isDate (l : Launch) (D : va_G) (cI cJ cO : ClassId) (ah : Nat)  (a0 : Int32) (r : Int32) (hf : f_X1_isDate a0 = some r) : Met l yX1_isDate wsX1_isDate ({ frames := 1, cells := 0, slots := 0, locals := 21 }) (va_Pc [.int a0] (pw D (ty3 cI cJ cO) (some ah) [])) (QSz r) 0 0 (fun _ => False) := by
  refine Met.ofW (cc := cX1_isDate) (maxL := 3) (ret := (some .boolean)) (by decide) rfl ?_
  intro p e s m args below meth c s₁ Bd hml hv
  obtain ⟨rfl, hZ, hP, hK⟩ := hv
  have hx := Bd.exec
  have hb := Bd.bytes
  have hr := Bd.returns
  have hts := atoms_spec (ws := wsX1_isDate) Bd.pre
  have hown : s.vm.findClass RX1 = some m.cls := findClass_of_methodNamed Bd.named
  have hlocks := Bd.notSynchronized
  have hl := lv_entry ([.int a0]) (n := 3) (Nat.le_of_ble_eq_true rfl)
  rw [lg_entry_eq]
  generalize (lg_sl ([.int a0]) ++ List.replicate (3 - (lg_sl ([.int a0])).length) Slot.unset).toArray = ls at hl ⊢
  have hl : lv_has ls 3 [(0, .int a0)] := hl
  unfold f_X1_isDate at hf
  refine lv_iload_n hx hb dX1_isDate_0 rfl (lv_at hl 0 rfl) ?_
  refine lv_ldc hx hb hown (hts (.constant RX1 11 (20160101)) (by decide +kernel)) dX1_isDate_1 ?_
  refine lv_icmp_lt (tgt := 12) hx hb dX1_isDate_3 (by decide) (fun c1 => ?_) (fun c1 => ?_)
  · have hf := it hf c1
    refine lv_iconst (v := 0) hx hb dX1_isDate_12 (by decide) ?_
    exact W.zret hx hb hr (zn (Or.inl rfl)) (fun t ht _ => ⟨_, rfl, ⟨Option.some.inj hf, (Or.inl rfl)⟩, ht⟩) (fun q hq => absurd hq List.not_mem_nil) dX1_isDate_13
  · have hf := ie hf c1
    refine lv_iload_n hx hb dX1_isDate_6 rfl (lv_at hl 0 rfl) ?_
    refine lv_ldc hx hb hown (hts (.constant RX1 12 (20661231)) (by decide +kernel)) dX1_isDate_7 ?_
    refine lv_icmp_le (tgt := 14) hx hb dX1_isDate_9 (by decide) (fun c2 => ?_) (fun c2 => ?_)
    · have hf := it hf c2
      refine lv_iload_n hx hb dX1_isDate_14 rfl (lv_at hl 0 rfl) ?_
      obtain ⟨v3, hv3, hf⟩ := ob hf
      refine cSi (W.runS (As := [.int a0]) (rest := []) ⟨hx, hb, hml, hown, hts⟩ (m_X1_monthOf l D cI cJ cO ah a0 v3 hv3) (va_cwS 1 hts gX1_isDate_X1_monthOf rfl rfl rfl (by decide +kernel) ⟨Nat.le_of_ble_eq_true rfl, Nat.le_of_ble_eq_true rfl⟩) ⟨pw_blind, fun U hU hW => ⟨rfl, pw_at hZ va_S.rf hP hK hU hW (Or.inr rfl) [] rfl⟩⟩ rfl rfl hl.1 rfl (lv_room (Nat.le_of_ble_eq_true rfl)) dX1_isDate_15 ⟨Nat.zero_le _, Nat.zero_le _⟩) ?_
      refine lv_istore_n (lv' := [(1, .int v3), (0, .int a0)]) hx hb dX1_isDate_18 rfl hl (by decide) rfl (fun ls hl => ?_)
      refine lv_iload_n hx hb dX1_isDate_19 rfl (lv_at hl 1 rfl) ?_
      obtain ⟨v4, hv4, hf⟩ := ob hf
      refine cSi (W.runS (As := [.int a0]) (rest := []) ⟨hx, hb, hml, hown, hts⟩ (m_X1_dayOf l D cI cJ cO ah a0 v4 hv4) (va_cwS 1 hts gX1_isDate_X1_dayOf rfl rfl rfl (by decide +kernel) ⟨Nat.le_of_ble_eq_true rfl, Nat.le_of_ble_eq_true rfl⟩) ⟨pw_blind, fun U hU hW => ⟨rfl, pw_at hZ va_S.rf hP hK hU hW (Or.inr rfl) [] rfl⟩⟩ rfl rfl hl.1 rfl (lv_room (Nat.le_of_ble_eq_true rfl)) dX1_isDate_20 ⟨Nat.zero_le _, Nat.zero_le _⟩) ?_
      refine lv_istore_n (lv' := [(2, .int v4), (1, .int v3), (0, .int a0)]) hx hb dX1_isDate_23 rfl hl (by decide) rfl (fun ls hl => ?_)
      refine lv_iload_n hx hb dX1_isDate_24 rfl (lv_at hl 1 rfl) ?_
      refine lv_iconst (v := 1) hx hb dX1_isDate_25 (by decide) ?_
      refine lv_icmp_lt (tgt := 56) hx hb dX1_isDate_26 (by decide) (fun c5 => ?_) (fun c5 => ?_)
      · have hf := it hf c5
        refine lv_iconst (v := 0) hx hb dX1_isDate_56 (by decide) ?_
        exact W.zret hx hb hr (zn (Or.inl rfl)) (fun t ht _ => ⟨_, rfl, ⟨Option.some.inj hf, (Or.inl rfl)⟩, ht⟩) (fun q hq => absurd hq List.not_mem_nil) dX1_isDate_57
      · have hf := ie hf c5
        refine lv_iload_n hx hb dX1_isDate_29 rfl (lv_at hl 1 rfl) ?_
        refine lv_bipush (v := 12) hx hb dX1_isDate_30 (by decide) ?_
        refine lv_icmp_gt (tgt := 56) hx hb dX1_isDate_32 (by decide) (fun c6 => ?_) (fun c6 => ?_)
        · have hf := it hf c6
          refine lv_iconst (v := 0) hx hb dX1_isDate_56 (by decide) ?_
          exact W.zret hx hb hr (zn (Or.inl rfl)) (fun t ht _ => ⟨_, rfl, ⟨Option.some.inj hf, (Or.inl rfl)⟩, ht⟩) (fun q hq => absurd hq List.not_mem_nil) dX1_isDate_57
        · have hf := ie hf c6
          refine lv_iload_n hx hb dX1_isDate_35 rfl (lv_at hl 0 rfl) ?_
          refine lv_iconst (v := 1) hx hb dX1_isDate_36 (by decide) ?_
          refine lv_icmp_lt (tgt := 56) hx hb dX1_isDate_37 (by decide) (fun c7 => ?_) (fun c7 => ?_)
          · have hf := it hf c7
            refine lv_iconst (v := 0) hx hb dX1_isDate_56 (by decide) ?_
            exact W.zret hx hb hr (zn (Or.inl rfl)) (fun t ht _ => ⟨_, rfl, ⟨Option.some.inj hf, (Or.inl rfl)⟩, ht⟩) (fun q hq => absurd hq List.not_mem_nil) dX1_isDate_57
          · have hf := ie hf c7
            refine lv_iload_n hx hb dX1_isDate_40 rfl (lv_at hl 0 rfl) ?_
            refine lv_iload_n hx hb dX1_isDate_41 rfl (lv_at hl 2 rfl) ?_
            obtain ⟨v8, hv8, hf⟩ := ob hf
            refine cSi (W.runS (As := [.int a0]) (rest := [.int v4]) ⟨hx, hb, hml, hown, hts⟩ (m_X1_yearOf l D cI cJ cO ah a0 v8 hv8) (va_cwS 1 hts gX1_isDate_X1_yearOf rfl rfl rfl (by decide +kernel) ⟨Nat.le_of_ble_eq_true rfl, Nat.le_of_ble_eq_true rfl⟩) ⟨pw_blind, fun U hU hW => ⟨rfl, pw_at hZ va_S.rf hP hK hU hW (Or.inr rfl) [] rfl⟩⟩ rfl rfl hl.1 rfl (lv_room (Nat.le_of_ble_eq_true rfl)) dX1_isDate_42 ⟨Nat.zero_le _, Nat.zero_le _⟩) ?_
            refine lv_iload_n hx hb dX1_isDate_45 rfl (lv_at hl 1 rfl) ?_
            obtain ⟨v9, hv9, hf⟩ := ob hf
            refine cSi (W.runS (As := [.int v8, .int v3]) (rest := [.int v4]) ⟨hx, hb, hml, hown, hts⟩ (m_X1_monthLength l D cI cJ cO ah v8 v3 v9 hv9) (va_cwS 2 hts gX1_isDate_X1_monthLength rfl rfl rfl (by decide +kernel) ⟨Nat.le_of_ble_eq_true rfl, Nat.le_of_ble_eq_true rfl⟩) ⟨pw_blind, fun U hU hW => ⟨rfl, pw_at hZ va_S.rf hP hK hU hW (Or.inr rfl) [] rfl⟩⟩ rfl rfl hl.1 rfl (lv_room (Nat.le_of_ble_eq_true rfl)) dX1_isDate_46 ⟨Nat.zero_le _, Nat.zero_le _⟩) ?_
            refine lv_icmp_gt (tgt := 56) hx hb dX1_isDate_49 (by decide) (fun c10 => ?_) (fun c10 => ?_)
            · have hf := it hf c10
              refine lv_iconst (v := 0) hx hb dX1_isDate_56 (by decide) ?_
              exact W.zret hx hb hr (zn (Or.inl rfl)) (fun t ht _ => ⟨_, rfl, ⟨Option.some.inj hf, (Or.inl rfl)⟩, ht⟩) (fun q hq => absurd hq List.not_mem_nil) dX1_isDate_57
            · have hf := ie hf c10
              refine lv_iconst (v := 1) hx hb dX1_isDate_52 (by decide) ?_
              refine lv_goto (tgt := 57) hx hb dX1_isDate_53 (by decide) ?_
              exact W.zret hx hb hr (zn (Or.inr rfl)) (fun t ht _ => ⟨_, rfl, ⟨Option.some.inj hf, (Or.inr rfl)⟩, ht⟩) (fun q hq => absurd hq List.not_mem_nil) dX1_isDate_57
    · have hf := ie hf c2
      refine lv_iconst (v := 0) hx hb dX1_isDate_12 (by decide) ?_
      exact W.zret hx hb hr (zn (Or.inl rfl)) (fun t ht _ => ⟨_, rfl, ⟨Option.some.inj hf, (Or.inl rfl)⟩, ht⟩) (fun q hq => absurd hq List.not_mem_nil) dX1_isDate_13
def f_X1_dayNumber (a0 : Int32) : Option Int32 :=
  bd ((a0 / 10000) - 2016 : Int32) fun x1 : Int32 => bd ((a0 / 100) - (a0 / 100) / 100 * 100 : Int32) fun x2 : Int32 => jn (fun (x4 : Int32) => jn (fun (x6 : Int32) => some ((((((365 * x1) + ((x1 + 3) / 4)) + x4) + x6) + (a0 - a0 / 100 * 100)) - 1)) fun K5 => jn (fun (_ : Unit) => K5 0) fun K7 => (if x2 ≤ 2 then K7 () else (if (x1 - x1 / 4 * 4) = 0 then K5 1 else K7 ()))) fun K3 => jn (fun (_ : Unit) => K3 0) fun K10 => (if x2 < 1 then K10 () else (if 12 < x2 then K10 () else bd (x2 - 1 : Int32) fun x13 : Int32 => gd (¬ (x13 < 0 ∨ 12 ≤ x13.toNatClampNeg)) (K3 (ahd x13.toNatClampNeg))))
set_option maxHeartbeats 4000000 in
set_option maxRecDepth 100000 in
theorem m_X1_dayNumber (l : Launch) (D : va_G) (cI cJ cO : ClassId) (ah : Nat)  (a0 : Int32) (r : Int32) (hf : f_X1_dayNumber a0 = some r) : Met l yX1_dayNumber wsX1_dayNumber ({ frames := 0, cells := 0, slots := 0, locals := 0 }) (va_Pc [.int a0] (pw D (ty3 cI cJ cO) (some ah) [eA cI ah])) (QSi r) 0 0 (fun _ => False) := by
  refine Met.ofW (cc := cX1_dayNumber) (maxL := 5) (ret := (some .int)) (by decide) rfl ?_
  intro p e s m args below meth c s₁ Bd hml hv
  obtain ⟨rfl, hZ, hP, hK⟩ := hv
  have hx := Bd.exec
  have hb := Bd.bytes
  have hr := Bd.returns
  have hts := atoms_spec (ws := wsX1_dayNumber) Bd.pre
  have hown : s.vm.findClass RX1 = some m.cls := findClass_of_methodNamed Bd.named
  have hlocks := Bd.notSynchronized
  have hl := lv_entry ([.int a0]) (n := 5) (Nat.le_of_ble_eq_true rfl)
  rw [lg_entry_eq]
  generalize (lg_sl ([.int a0]) ++ List.replicate (5 - (lg_sl ([.int a0])).length) Slot.unset).toArray = ls at hl ⊢
  have hl : lv_has ls 5 [(0, .int a0)] := hl
  unfold f_X1_dayNumber at hf
  refine lv_iload_n hx hb dX1_dayNumber_0 rfl (lv_at hl 0 rfl) ?_
  refine lv_sipush (v := 10000) hx hb dX1_dayNumber_1 (by decide) ?_
  refine lv_idiv hx hb dX1_dayNumber_4 (by decide) ?_
  refine lv_sipush (v := 2016) hx hb dX1_dayNumber_5 (by decide) ?_
  refine lv_isub hx hb dX1_dayNumber_8 ?_
  refine lv_topi (fun x1 ex1 => ?_)
  have hf := bd_s hf ex1
  refine lv_istore_n (lv' := [(1, .int x1), (0, .int a0)]) hx hb dX1_dayNumber_9 rfl hl (by decide) rfl (fun ls hl => ?_)
  refine lv_iload_n hx hb dX1_dayNumber_10 rfl (lv_at hl 1 rfl) ?_
  refine lv_bipush (v := 100) hx hb dX1_dayNumber_11 (by decide) ?_
  refine lv_idiv hx hb dX1_dayNumber_13 (by decide) ?_
  refine lv_bipush (v := 100) hx hb dX1_dayNumber_14 (by decide) ?_
  refine lv_irem hx hb dX1_dayNumber_16 (by decide) ?_
  refine lv_topi (fun x2 ex2 => ?_)
  have hf := bd_s hf ex2
  refine lv_istore_n (lv' := [(2, .int x2), (1, .int x1), (0, .int a0)]) hx hb dX1_dayNumber_17 rfl hl (by decide) rfl (fun ls hl => ?_)
  refine lv_iload_n hx hb dX1_dayNumber_18 rfl (lv_at hl 0 rfl) ?_
  refine lv_iconst (v := 1) hx hb dX1_dayNumber_19 (by decide) ?_
  obtain ⟨K3, hK3, hf⟩ := jn_s hf
  have JK3 : ∀ (x4 : Int32) (ls : Array Slot), lv_has ls 5 [(0, .int a0), (1, .int x1), (2, .int x2)] → K3 x4 = some r → W p l e (headSpec wsX1_dayNumber ({ frames := 0, cells := 0, slots := 0, locals := 0 })).room s m ([.int a0] : List Value).toArray below meth c s.heap [] 0 0 (MQ below (QSi r) ([.int a0] : List Value).toArray s 0 0 (fun _ => False)) (F0 m 42 ls [.int x4]) := by
    intro x4 ls hl hf
    rw [hK3] at hf
    refine lv_istore_n (lv' := [(3, .int x4), (0, .int a0), (1, .int x1), (2, .int x2)]) hx hb dX1_dayNumber_42 rfl hl (by decide) rfl (fun ls hl => ?_)
    refine lv_iload_n hx hb dX1_dayNumber_43 rfl (lv_at hl 3 rfl) ?_
    refine lv_iconst (v := 2) hx hb dX1_dayNumber_44 (by decide) ?_
    obtain ⟨K5, hK5, hf⟩ := jn_s hf
    have JK5 : ∀ (x6 : Int32) (ls : Array Slot), lv_has ls 5 [(0, .int a0), (1, .int x1), (3, .int x4)] → K5 x6 = some r → W p l e (headSpec wsX1_dayNumber ({ frames := 0, cells := 0, slots := 0, locals := 0 })).room s m ([.int a0] : List Value).toArray below meth c s.heap [] 0 0 (MQ below (QSi r) ([.int a0] : List Value).toArray s 0 0 (fun _ => False)) (F0 m 59 ls [.int x6]) := by
      intro x6 ls hl hf
      rw [hK5] at hf
      refine lv_istore (lv' := [(4, .int x6), (0, .int a0), (1, .int x1), (3, .int x4)]) hx hb dX1_dayNumber_59 hl (by decide) rfl (fun ls hl => ?_)
      refine lv_sipush (v := 365) hx hb dX1_dayNumber_61 (by decide) ?_
      refine lv_iload_n hx hb dX1_dayNumber_64 rfl (lv_at hl 2 rfl) ?_
      refine lv_imul hx hb dX1_dayNumber_65 ?_
      refine lv_iload_n hx hb dX1_dayNumber_66 rfl (lv_at hl 2 rfl) ?_
      refine lv_iconst (v := 3) hx hb dX1_dayNumber_67 (by decide) ?_
      refine lv_iadd hx hb dX1_dayNumber_68 ?_
      refine lv_iconst (v := 4) hx hb dX1_dayNumber_69 (by decide) ?_
      refine lv_idiv hx hb dX1_dayNumber_70 (by decide) ?_
      refine lv_iadd hx hb dX1_dayNumber_71 ?_
      refine lv_iload_n hx hb dX1_dayNumber_72 rfl (lv_at hl 3 rfl) ?_
      refine lv_iadd hx hb dX1_dayNumber_73 ?_
      refine lv_iload hx hb dX1_dayNumber_74 (lv_at hl 0 rfl) ?_
      refine lv_iadd hx hb dX1_dayNumber_76 ?_
      refine lv_iload_n hx hb dX1_dayNumber_77 rfl (lv_at hl 1 rfl) ?_
      refine lv_bipush (v := 100) hx hb dX1_dayNumber_78 (by decide) ?_
      refine lv_irem hx hb dX1_dayNumber_80 (by decide) ?_
      refine lv_iadd hx hb dX1_dayNumber_81 ?_
      refine lv_iconst (v := 1) hx hb dX1_dayNumber_82 (by decide) ?_
      refine lv_isub hx hb dX1_dayNumber_83 ?_
      exact W.iret hx hb hr (fun t ht _ => ⟨_, rfl, Option.some.inj hf, ht⟩) (fun q hq => absurd hq List.not_mem_nil) dX1_dayNumber_84
    obtain ⟨K7, hK7, hf⟩ := jn_s hf
    have JK7 : ∀  (ls : Array Slot), lv_has ls 5 [(0, .int a0), (1, .int x1), (3, .int x4)] → K7 () = some r → W p l e (headSpec wsX1_dayNumber ({ frames := 0, cells := 0, slots := 0, locals := 0 })).room s m ([.int a0] : List Value).toArray below meth c s.heap [] 0 0 (MQ below (QSi r) ([.int a0] : List Value).toArray s 0 0 (fun _ => False)) (F0 m 58 ls []) := by
      intro  ls hl hf
      rw [hK7] at hf
      refine lv_iconst (v := 0) hx hb dX1_dayNumber_58 (by decide) ?_
      exact JK5 0 ls (lv_sub hl [0, 1, 2] rfl) hf
    refine lv_icmp_le (tgt := 58) hx hb dX1_dayNumber_45 (by decide) (fun c8 => ?_) (fun c8 => ?_)
    · have hf := it hf c8
      exact JK7  ls (lv_sub hl [1, 2, 0] rfl) hf
    · have hf := ie hf c8
      refine lv_iload_n hx hb dX1_dayNumber_48 rfl (lv_at hl 2 rfl) ?_
      refine lv_iconst (v := 4) hx hb dX1_dayNumber_49 (by decide) ?_
      refine lv_irem hx hb dX1_dayNumber_50 (by decide) ?_
      refine lv_if_ne (tgt := 58) hx hb dX1_dayNumber_51 (by decide) (fun c9 => ?_) (fun c9 => ?_)
      · have hf := ie hf c9
        exact JK7  ls (lv_sub hl [1, 2, 0] rfl) hf
      · have hf := it hf c9
        refine lv_iconst (v := 1) hx hb dX1_dayNumber_54 (by decide) ?_
        refine lv_goto (tgt := 59) hx hb dX1_dayNumber_55 (by decide) ?_
        exact JK5 1 ls (lv_sub hl [1, 2, 0] rfl) hf
  obtain ⟨K10, hK10, hf⟩ := jn_s hf
  have JK10 : ∀  (ls : Array Slot), lv_has ls 5 [(0, .int a0), (1, .int x1), (2, .int x2)] → K10 () = some r → W p l e (headSpec wsX1_dayNumber ({ frames := 0, cells := 0, slots := 0, locals := 0 })).room s m ([.int a0] : List Value).toArray below meth c s.heap [] 0 0 (MQ below (QSi r) ([.int a0] : List Value).toArray s 0 0 (fun _ => False)) (F0 m 41 ls []) := by
    intro  ls hl hf
    rw [hK10] at hf
    refine lv_iconst (v := 0) hx hb dX1_dayNumber_41 (by decide) ?_
    exact JK3 0 ls (lv_sub hl [0, 1, 2] rfl) hf
  refine lv_icmp_lt (tgt := 41) hx hb dX1_dayNumber_20 (by decide) (fun c11 => ?_) (fun c11 => ?_)
  · have hf := it hf c11
    exact JK10  ls (lv_sub hl [2, 1, 0] rfl) hf
  · have hf := ie hf c11
    refine lv_iload_n hx hb dX1_dayNumber_23 rfl (lv_at hl 0 rfl) ?_
    refine va_gets hx hb (hZ ah rfl) va_S.rf hown (hts (.fieldLink RX1 27 "BondDesk$Dates" "AHEAD" "[I") (by decide +kernel)) (fun _ h9 => h9) dX1_dayNumber_24 ?_
    refine va_alen (v := 12) hx hb hK hP 0 0 rfl rfl rfl dX1_dayNumber_27 ?_
    refine lv_icmp_gt (tgt := 41) hx hb dX1_dayNumber_28 (by decide) (fun c12 => ?_) (fun c12 => ?_)
    · have hf := it hf c12
      exact JK10  ls (lv_sub hl [2, 1, 0] rfl) hf
    · have hf := ie hf c12
      refine va_gets hx hb (hZ ah rfl) va_S.rf hown (hts (.fieldLink RX1 27 "BondDesk$Dates" "AHEAD" "[I") (by decide +kernel)) (fun _ h9 => h9) dX1_dayNumber_31 ?_
      refine lv_iload_n hx hb dX1_dayNumber_34 rfl (lv_at hl 0 rfl) ?_
      refine lv_iconst (v := 1) hx hb dX1_dayNumber_35 (by decide) ?_
      refine lv_isub hx hb dX1_dayNumber_36 ?_
      refine lv_topi (fun x13 ex13 => ?_)
      have hf := bd_s hf ex13
      obtain ⟨c14, hf⟩ := gd_s hf
      refine va_iald hx hb hK hP 0 0 rfl rfl c14 dX1_dayNumber_37 ?_
      refine lv_goto (tgt := 42) hx hb dX1_dayNumber_38 (by decide) ?_
      exact JK3 (ahd x13.toNatClampNeg) ls (lv_sub hl [2, 1, 0] rfl) hf
def f_X1_dateOf_L31 (x2 : Int32) (K6 : Int32 → Int32 → Option Int32) : Nat → Int32 → Int32 → Option Int32
  | 0, _, _ => none
  | n9 + 1, x4, x5 => (if 12 ≤ x5 then K6 x4 x5 else (f_X1_monthLength x2 x5).bind fun v11 : Int32 => (if x4 < v11 then K6 x4 x5 else (f_X1_monthLength x2 x5).bind fun v13 : Int32 => bd (x4 - v13 : Int32) fun x14 : Int32 => bd (x5 + 1) fun x15 : Int32 => f_X1_dateOf_L31 x2 K6 n9 x14 x15))
def f_X1_dateOf (N : Nat) (a0 : Int32) : Option Int32 :=
  bd ((4 * a0) / 1461 : Int32) fun x1 : Int32 => bd (2016 + x1 : Int32) fun x2 : Int32 => bd ((a0 - (365 * x1)) - ((x1 + 3) / 4) : Int32) fun x3 : Int32 => f_X1_dateOf_L31 x2 (fun (x7 : Int32) (x8 : Int32) => some ((((10000 * x2) + (100 * x8)) + x7) + 1)) N x3 1
set_option maxHeartbeats 4000000 in
set_option maxRecDepth 100000 in
theorem m_X1_dateOf (l : Launch) (D : va_G) (cI cJ cO : ClassId) (ah : Nat)  (a0 : Int32) (N : Nat) (r : Int32) (hf : f_X1_dateOf N a0 = some r) : Met l yX1_dateOf wsX1_dateOf ({ frames := 1, cells := 0, slots := 0, locals := 21 }) (va_Pc [.int a0] (pw D (ty3 cI cJ cO) (some ah) [])) (QSi r) 0 0 (fun _ => False) := by
  refine Met.ofW (cc := cX1_dateOf) (maxL := 5) (ret := (some .int)) (by decide) rfl ?_
  intro p e s m args below meth c s₁ Bd hml hv
  obtain ⟨rfl, hZ, hP, hK⟩ := hv
  have hx := Bd.exec
  have hb := Bd.bytes
  have hr := Bd.returns
  have hts := atoms_spec (ws := wsX1_dateOf) Bd.pre
  have hown : s.vm.findClass RX1 = some m.cls := findClass_of_methodNamed Bd.named
  have hlocks := Bd.notSynchronized
  have hl := lv_entry ([.int a0]) (n := 5) (Nat.le_of_ble_eq_true rfl)
  rw [lg_entry_eq]
  generalize (lg_sl ([.int a0]) ++ List.replicate (5 - (lg_sl ([.int a0])).length) Slot.unset).toArray = ls at hl ⊢
  have hl : lv_has ls 5 [(0, .int a0)] := hl
  unfold f_X1_dateOf at hf
  refine lv_iconst (v := 4) hx hb dX1_dateOf_0 (by decide) ?_
  refine lv_iload_n hx hb dX1_dateOf_1 rfl (lv_at hl 0 rfl) ?_
  refine lv_imul hx hb dX1_dateOf_2 ?_
  refine lv_sipush (v := 1461) hx hb dX1_dateOf_3 (by decide) ?_
  refine lv_idiv hx hb dX1_dateOf_6 (by decide) ?_
  refine lv_topi (fun x1 ex1 => ?_)
  have hf := bd_s hf ex1
  refine lv_istore_n (lv' := [(1, .int x1), (0, .int a0)]) hx hb dX1_dateOf_7 rfl hl (by decide) rfl (fun ls hl => ?_)
  refine lv_sipush (v := 2016) hx hb dX1_dateOf_8 (by decide) ?_
  refine lv_iload_n hx hb dX1_dateOf_11 rfl (lv_at hl 0 rfl) ?_
  refine lv_iadd hx hb dX1_dateOf_12 ?_
  refine lv_topi (fun x2 ex2 => ?_)
  have hf := bd_s hf ex2
  refine lv_istore_n (lv' := [(2, .int x2), (1, .int x1), (0, .int a0)]) hx hb dX1_dateOf_13 rfl hl (by decide) rfl (fun ls hl => ?_)
  refine lv_iload_n hx hb dX1_dateOf_14 rfl (lv_at hl 2 rfl) ?_
  refine lv_sipush (v := 365) hx hb dX1_dateOf_15 (by decide) ?_
  refine lv_iload_n hx hb dX1_dateOf_18 rfl (lv_at hl 1 rfl) ?_
  refine lv_imul hx hb dX1_dateOf_19 ?_
  refine lv_isub hx hb dX1_dateOf_20 ?_
  refine lv_iload_n hx hb dX1_dateOf_21 rfl (lv_at hl 1 rfl) ?_
  refine lv_iconst (v := 3) hx hb dX1_dateOf_22 (by decide) ?_
  refine lv_iadd hx hb dX1_dateOf_23 ?_
  refine lv_iconst (v := 4) hx hb dX1_dateOf_24 (by decide) ?_
  refine lv_idiv hx hb dX1_dateOf_25 (by decide) ?_
  refine lv_isub hx hb dX1_dateOf_26 ?_
  refine lv_topi (fun x3 ex3 => ?_)
  have hf := bd_s hf ex3
  refine lv_istore_n (lv' := [(3, .int x3), (2, .int x2), (1, .int x1), (0, .int a0)]) hx hb dX1_dateOf_27 rfl hl (by decide) rfl (fun ls hl => ?_)
  refine lv_iconst (v := 1) hx hb dX1_dateOf_28 (by decide) ?_
  refine lv_istore (lv' := [(4, .int 1), (3, .int x3), (2, .int x2), (1, .int x1), (0, .int a0)]) hx hb dX1_dateOf_29 hl (by decide) rfl (fun ls hl => ?_)
  obtain ⟨K6, hK6, hf⟩ := kx_s (P := fun k => f_X1_dateOf_L31 x2 k N x3 1 = some r) hf
  have JK6 : ∀ (x7 : Int32) (x8 : Int32) (ls : Array Slot), lv_has ls 5 [(2, .int x2), (3, .int x7), (4, .int x8)] → K6 x7 x8 = some r → W p l e (headSpec wsX1_dateOf ({ frames := 1, cells := 0, slots := 0, locals := 21 })).room s m ([.int a0] : List Value).toArray below meth c s.heap [] 0 0 (MQ below (QSi r) ([.int a0] : List Value).toArray s 0 0 (fun _ => False)) (F0 m 63 ls []) := by
    intro x7 x8 ls hl hf
    rw [hK6] at hf
    refine lv_sipush (v := 10000) hx hb dX1_dateOf_63 (by decide) ?_
    refine lv_iload_n hx hb dX1_dateOf_66 rfl (lv_at hl 0 rfl) ?_
    refine lv_imul hx hb dX1_dateOf_67 ?_
    refine lv_bipush (v := 100) hx hb dX1_dateOf_68 (by decide) ?_
    refine lv_iload hx hb dX1_dateOf_70 (lv_at hl 2 rfl) ?_
    refine lv_imul hx hb dX1_dateOf_72 ?_
    refine lv_iadd hx hb dX1_dateOf_73 ?_
    refine lv_iload_n hx hb dX1_dateOf_74 rfl (lv_at hl 1 rfl) ?_
    refine lv_iadd hx hb dX1_dateOf_75 ?_
    refine lv_iconst (v := 1) hx hb dX1_dateOf_76 (by decide) ?_
    refine lv_iadd hx hb dX1_dateOf_77 ?_
    exact W.iret hx hb hr (fun t ht _ => ⟨_, rfl, Option.some.inj hf, ht⟩) (fun q hq => absurd hq List.not_mem_nil) dX1_dateOf_78
  have LP31 : ∀ (n9 : Nat) (x4 : Int32) (x5 : Int32) (ls : Array Slot), lv_has ls 5 [(2, .int x2), (3, .int x4), (4, .int x5)] → f_X1_dateOf_L31 x2 K6 n9 x4 x5 = some r → W p l e (headSpec wsX1_dateOf ({ frames := 1, cells := 0, slots := 0, locals := 21 })).room s m ([.int a0] : List Value).toArray below meth c s.heap [] 0 0 (MQ below (QSi r) ([.int a0] : List Value).toArray s 0 0 (fun _ => False)) (F0 m 31 ls []) := by
    intro n9
    induction n9 with
    | zero => intro x4 x5 ls hl hf; exact (no_s hf).elim
    | succ n9 ih9 =>
      intro x4 x5 ls hl hf
      rw [f_X1_dateOf_L31] at hf
      refine lv_iload hx hb dX1_dateOf_31 (lv_at hl 2 rfl) ?_
      refine lv_bipush (v := 12) hx hb dX1_dateOf_33 (by decide) ?_
      refine lv_icmp_ge (tgt := 63) hx hb dX1_dateOf_35 (by decide) (fun c10 => ?_) (fun c10 => ?_)
      · have hf := it hf c10
        exact JK6 x4 x5 ls (lv_sub hl [0, 1, 2] rfl) hf
      · have hf := ie hf c10
        refine lv_iload_n hx hb dX1_dateOf_38 rfl (lv_at hl 1 rfl) ?_
        refine lv_iload_n hx hb dX1_dateOf_39 rfl (lv_at hl 0 rfl) ?_
        refine lv_iload hx hb dX1_dateOf_40 (lv_at hl 2 rfl) ?_
        obtain ⟨v11, hv11, hf⟩ := ob hf
        refine cSi (W.runS (As := [.int x2, .int x5]) (rest := [.int x4]) ⟨hx, hb, hml, hown, hts⟩ (m_X1_monthLength l D cI cJ cO ah x2 x5 v11 hv11) (va_cwS 2 hts gX1_dateOf_X1_monthLength rfl rfl rfl (by decide +kernel) ⟨Nat.le_of_ble_eq_true rfl, Nat.le_of_ble_eq_true rfl⟩) ⟨pw_blind, fun U hU hW => ⟨rfl, pw_at hZ va_S.rf hP hK hU hW (Or.inr rfl) [] rfl⟩⟩ rfl rfl hl.1 rfl (lv_room (Nat.le_of_ble_eq_true rfl)) dX1_dateOf_42 ⟨Nat.zero_le _, Nat.zero_le _⟩) ?_
        refine lv_icmp_lt (tgt := 63) hx hb dX1_dateOf_45 (by decide) (fun c12 => ?_) (fun c12 => ?_)
        · have hf := it hf c12
          exact JK6 x4 x5 ls (lv_sub hl [0, 1, 2] rfl) hf
        · have hf := ie hf c12
          refine lv_iload_n hx hb dX1_dateOf_48 rfl (lv_at hl 1 rfl) ?_
          refine lv_iload_n hx hb dX1_dateOf_49 rfl (lv_at hl 0 rfl) ?_
          refine lv_iload hx hb dX1_dateOf_50 (lv_at hl 2 rfl) ?_
          obtain ⟨v13, hv13, hf⟩ := ob hf
          refine cSi (W.runS (As := [.int x2, .int x5]) (rest := [.int x4]) ⟨hx, hb, hml, hown, hts⟩ (m_X1_monthLength l D cI cJ cO ah x2 x5 v13 hv13) (va_cwS 2 hts gX1_dateOf_X1_monthLength rfl rfl rfl (by decide +kernel) ⟨Nat.le_of_ble_eq_true rfl, Nat.le_of_ble_eq_true rfl⟩) ⟨pw_blind, fun U hU hW => ⟨rfl, pw_at hZ va_S.rf hP hK hU hW (Or.inr rfl) [] rfl⟩⟩ rfl rfl hl.1 rfl (lv_room (Nat.le_of_ble_eq_true rfl)) dX1_dateOf_52 ⟨Nat.zero_le _, Nat.zero_le _⟩) ?_
          refine lv_isub hx hb dX1_dateOf_55 ?_
          refine lv_topi (fun x14 ex14 => ?_)
          have hf := bd_s hf ex14
          refine lv_istore_n (lv' := [(3, .int x14), (2, .int x2), (4, .int x5)]) hx hb dX1_dateOf_56 rfl hl (by decide) rfl (fun ls hl => ?_)
          obtain ⟨x15, ex15⟩ : ∃ y : Int32, y = x5 + 1 := ⟨_, rfl⟩
          have hf := bd_s hf ex15
          refine lv_iinc (v := x15) (lv' := [(4, .int x15), (3, .int x14), (2, .int x2)]) hx hb dX1_dateOf_57 hl (k := 2) rfl (by rw [ex15]; rfl) (by decide) rfl (fun ls hl => ?_)
          refine lv_goto (tgt := 31) hx hb dX1_dateOf_60 (by decide) ?_
          exact ih9 x14 x15 ls (lv_sub hl [2, 1, 0] rfl) hf
  exact LP31 N x3 1 ls (lv_sub hl [2, 1, 0] rfl) hf
def f_X1_dayOfWeek (a0 : Int32) : Option Int32 :=
  some ((a0 + 4) - (a0 + 4) / 7 * 7)
set_option maxHeartbeats 4000000 in
set_option maxRecDepth 100000 in
theorem m_X1_dayOfWeek (l : Launch) (D : va_G) (cI cJ cO : ClassId) (ah : Nat)  (a0 : Int32) (r : Int32) (hf : f_X1_dayOfWeek a0 = some r) : Met l yX1_dayOfWeek wsX1_dayOfWeek ({ frames := 0, cells := 0, slots := 0, locals := 0 }) (va_Pc [.int a0] (pw D (ty3 cI cJ cO) (some ah) [])) (QSi r) 0 0 (fun _ => False) := by
  refine Met.ofW (cc := cX1_dayOfWeek) (maxL := 1) (ret := (some .int)) (by decide) rfl ?_
  intro p e s m args below meth c s₁ Bd hml hv
  obtain ⟨rfl, hZ, hP, hK⟩ := hv
  have hx := Bd.exec
  have hb := Bd.bytes
  have hr := Bd.returns
  have hts := atoms_spec (ws := wsX1_dayOfWeek) Bd.pre
  have hown : s.vm.findClass RX1 = some m.cls := findClass_of_methodNamed Bd.named
  have hlocks := Bd.notSynchronized
  have hl := lv_entry ([.int a0]) (n := 1) (Nat.le_of_ble_eq_true rfl)
  rw [lg_entry_eq]
  generalize (lg_sl ([.int a0]) ++ List.replicate (1 - (lg_sl ([.int a0])).length) Slot.unset).toArray = ls at hl ⊢
  have hl : lv_has ls 1 [(0, .int a0)] := hl
  unfold f_X1_dayOfWeek at hf
  refine lv_iload_n hx hb dX1_dayOfWeek_0 rfl (lv_at hl 0 rfl) ?_
  refine lv_iconst (v := 4) hx hb dX1_dayOfWeek_1 (by decide) ?_
  refine lv_iadd hx hb dX1_dayOfWeek_2 ?_
  refine lv_bipush (v := 7) hx hb dX1_dayOfWeek_3 (by decide) ?_
  refine lv_irem hx hb dX1_dayOfWeek_5 (by decide) ?_
  exact W.iret hx hb hr (fun t ht _ => ⟨_, rfl, Option.some.inj hf, ht⟩) (fun q hq => absurd hq List.not_mem_nil) dX1_dayOfWeek_6
def f_X1_daysBetween (a0 : Int32) (a1 : Int32) : Option Int32 :=
  (f_X1_dayNumber a1).bind fun v1 : Int32 => (f_X1_dayNumber a0).bind fun v2 : Int32 => some (v1 - v2)
set_option maxHeartbeats 4000000 in
set_option maxRecDepth 100000 in
theorem m_X1_daysBetween (l : Launch) (D : va_G) (cI cJ cO : ClassId) (ah : Nat)  (a0 : Int32) (a1 : Int32) (r : Int32) (hf : f_X1_daysBetween a0 a1 = some r) : Met l yX1_daysBetween wsX1_daysBetween ({ frames := 1, cells := 0, slots := 0, locals := 24 }) (va_Pc [.int a0, .int a1] (pw D (ty3 cI cJ cO) (some ah) [eA cI ah])) (QSi r) 0 0 (fun _ => False) := by
  refine Met.ofW (cc := cX1_daysBetween) (maxL := 2) (ret := (some .int)) (by decide) rfl ?_
  intro p e s m args below meth c s₁ Bd hml hv
  obtain ⟨rfl, hZ, hP, hK⟩ := hv
  have hx := Bd.exec
  have hb := Bd.bytes
  have hr := Bd.returns
  have hts := atoms_spec (ws := wsX1_daysBetween) Bd.pre
  have hown : s.vm.findClass RX1 = some m.cls := findClass_of_methodNamed Bd.named
  have hlocks := Bd.notSynchronized
  have hl := lv_entry ([.int a0, .int a1]) (n := 2) (Nat.le_of_ble_eq_true rfl)
  rw [lg_entry_eq]
  generalize (lg_sl ([.int a0, .int a1]) ++ List.replicate (2 - (lg_sl ([.int a0, .int a1])).length) Slot.unset).toArray = ls at hl ⊢
  have hl : lv_has ls 2 [(0, .int a0), (1, .int a1)] := hl
  unfold f_X1_daysBetween at hf
  refine lv_iload_n hx hb dX1_daysBetween_0 rfl (lv_at hl 1 rfl) ?_
  obtain ⟨v1, hv1, hf⟩ := ob hf
  refine cSi (W.runS (As := [.int a1]) (rest := []) ⟨hx, hb, hml, hown, hts⟩ (m_X1_dayNumber l D cI cJ cO ah a1 v1 hv1) (va_cwS 1 hts gX1_daysBetween_X1_dayNumber rfl rfl rfl (by decide +kernel) ⟨Nat.le_of_ble_eq_true rfl, Nat.le_of_ble_eq_true rfl⟩) ⟨pw_blind, fun U hU hW => ⟨rfl, pw_at hZ va_S.rf hP hK hU hW (Or.inr rfl) [0] rfl⟩⟩ rfl rfl hl.1 rfl (lv_room (Nat.le_of_ble_eq_true rfl)) dX1_daysBetween_1 ⟨Nat.zero_le _, Nat.zero_le _⟩) ?_
  refine lv_iload_n hx hb dX1_daysBetween_4 rfl (lv_at hl 0 rfl) ?_
  obtain ⟨v2, hv2, hf⟩ := ob hf
  refine cSi (W.runS (As := [.int a0]) (rest := [.int v1]) ⟨hx, hb, hml, hown, hts⟩ (m_X1_dayNumber l D cI cJ cO ah a0 v2 hv2) (va_cwS 1 hts gX1_daysBetween_X1_dayNumber rfl rfl rfl (by decide +kernel) ⟨Nat.le_of_ble_eq_true rfl, Nat.le_of_ble_eq_true rfl⟩) ⟨pw_blind, fun U hU hW => ⟨rfl, pw_at hZ va_S.rf hP hK hU hW (Or.inr rfl) [0] rfl⟩⟩ rfl rfl hl.1 rfl (lv_room (Nat.le_of_ble_eq_true rfl)) dX1_daysBetween_5 ⟨Nat.zero_le _, Nat.zero_le _⟩) ?_
  refine lv_isub hx hb dX1_daysBetween_8 ?_
  exact W.iret hx hb hr (fun t ht _ => ⟨_, rfl, Option.some.inj hf, ht⟩) (fun q hq => absurd hq List.not_mem_nil) dX1_daysBetween_9
def f_X1_daysOf30 (a0 : Int32) (a1 : Int32) : Option Int32 :=
  (f_X1_dayOf a0).bind fun v1 : Int32 => bd (if 30 < v1 then 30 else v1 : Int32) fun x2 : Int32 => jn (fun (x4 : Int32) => (f_X1_yearOf a1).bind fun v5 : Int32 => (f_X1_yearOf a0).bind fun v6 : Int32 => (f_X1_monthOf a1).bind fun v7 : Int32 => (f_X1_monthOf a0).bind fun v8 : Int32 => some ((((360 * (v5 - v6)) + (30 * (v7 - v8))) + x4) - x2)) fun K3 => (if x2 = 30 then (f_X1_dayOf a1).bind fun v11 : Int32 => bd (if 30 < v11 then 30 else v11 : Int32) fun x12 : Int32 => K3 x12 else (f_X1_dayOf a1).bind fun v10 : Int32 => K3 v10)
set_option maxHeartbeats 4000000 in
set_option maxRecDepth 100000 in
theorem m_X1_daysOf30 (l : Launch) (D : va_G) (cI cJ cO : ClassId) (ah : Nat)  (a0 : Int32) (a1 : Int32) (r : Int32) (hf : f_X1_daysOf30 a0 a1 = some r) : Met l yX1_daysOf30 wsX1_daysOf30 ({ frames := 1, cells := 0, slots := 0, locals := 20 }) (va_Pc [.int a0, .int a1] (pw D (ty3 cI cJ cO) (some ah) [])) (QSi r) 0 0 (fun _ => False) := by
  refine Met.ofW (cc := cX1_daysOf30) (maxL := 4) (ret := (some .int)) (by decide) rfl ?_
  intro p e s m args below meth c s₁ Bd hml hv
  obtain ⟨rfl, hZ, hP, hK⟩ := hv
  have hx := Bd.exec
  have hb := Bd.bytes
  have hr := Bd.returns
  have hts := atoms_spec (ws := wsX1_daysOf30) Bd.pre
  have hown : s.vm.findClass RX1 = some m.cls := findClass_of_methodNamed Bd.named
  have hlocks := Bd.notSynchronized
  have hl := lv_entry ([.int a0, .int a1]) (n := 4) (Nat.le_of_ble_eq_true rfl)
  rw [lg_entry_eq]
  generalize (lg_sl ([.int a0, .int a1]) ++ List.replicate (4 - (lg_sl ([.int a0, .int a1])).length) Slot.unset).toArray = ls at hl ⊢
  have hl : lv_has ls 4 [(0, .int a0), (1, .int a1)] := hl
  unfold f_X1_daysOf30 at hf
  refine lv_iload_n hx hb dX1_daysOf30_0 rfl (lv_at hl 0 rfl) ?_
  obtain ⟨v1, hv1, hf⟩ := ob hf
  refine cSi (W.runS (As := [.int a0]) (rest := []) ⟨hx, hb, hml, hown, hts⟩ (m_X1_dayOf l D cI cJ cO ah a0 v1 hv1) (va_cwS 1 hts gX1_daysOf30_X1_dayOf rfl rfl rfl (by decide +kernel) ⟨Nat.le_of_ble_eq_true rfl, Nat.le_of_ble_eq_true rfl⟩) ⟨pw_blind, fun U hU hW => ⟨rfl, pw_at hZ va_S.rf hP hK hU hW (Or.inr rfl) [] rfl⟩⟩ rfl rfl hl.1 rfl (lv_room (Nat.le_of_ble_eq_true rfl)) dX1_daysOf30_1 ⟨Nat.zero_le _, Nat.zero_le _⟩) ?_
  refine lv_bipush (v := 30) hx hb dX1_daysOf30_4 (by decide) ?_
  refine va_mmin hx hb (hml.trans hl.1.symm) hown (hts (.methodLink RX1 34 Lib.Math.min.name) (by decide +kernel)) (hts (.static Lib.Math.min.name) (by decide +kernel)) (hts (.initialized "java/lang/Math") (by decide +kernel)) (hts (.code Lib.Math.min.name Lib.Math.min.code 2 (some .int)) (by decide +kernel)) (Nat.le_of_ble_eq_true rfl) (Nat.le_of_ble_eq_true rfl) (Nat.zero_le _) (Nat.zero_le _) dX1_daysOf30_6 ?_
  refine lv_topi (fun x2 ex2 => ?_)
  have hf := bd_s hf ex2
  refine lv_istore_n (lv' := [(2, .int x2), (0, .int a0), (1, .int a1)]) hx hb dX1_daysOf30_9 rfl hl (by decide) rfl (fun ls hl => ?_)
  refine lv_iload_n hx hb dX1_daysOf30_10 rfl (lv_at hl 0 rfl) ?_
  refine lv_bipush (v := 30) hx hb dX1_daysOf30_11 (by decide) ?_
  obtain ⟨K3, hK3, hf⟩ := jn_s hf
  have JK3 : ∀ (x4 : Int32) (ls : Array Slot), lv_has ls 4 [(0, .int a0), (1, .int a1), (2, .int x2)] → K3 x4 = some r → W p l e (headSpec wsX1_daysOf30 ({ frames := 1, cells := 0, slots := 0, locals := 20 })).room s m ([.int a0, .int a1] : List Value).toArray below meth c s.heap [] 0 0 (MQ below (QSi r) ([.int a0, .int a1] : List Value).toArray s 0 0 (fun _ => False)) (F0 m 32 ls [.int x4]) := by
    intro x4 ls hl hf
    rw [hK3] at hf
    refine lv_istore_n (lv' := [(3, .int x4), (0, .int a0), (1, .int a1), (2, .int x2)]) hx hb dX1_daysOf30_32 rfl hl (by decide) rfl (fun ls hl => ?_)
    refine lv_sipush (v := 360) hx hb dX1_daysOf30_33 (by decide) ?_
    refine lv_iload_n hx hb dX1_daysOf30_36 rfl (lv_at hl 2 rfl) ?_
    obtain ⟨v5, hv5, hf⟩ := ob hf
    refine cSi (W.runS (As := [.int a1]) (rest := [.int 360]) ⟨hx, hb, hml, hown, hts⟩ (m_X1_yearOf l D cI cJ cO ah a1 v5 hv5) (va_cwS 1 hts gX1_daysOf30_X1_yearOf rfl rfl rfl (by decide +kernel) ⟨Nat.le_of_ble_eq_true rfl, Nat.le_of_ble_eq_true rfl⟩) ⟨pw_blind, fun U hU hW => ⟨rfl, pw_at hZ va_S.rf hP hK hU hW (Or.inr rfl) [] rfl⟩⟩ rfl rfl hl.1 rfl (lv_room (Nat.le_of_ble_eq_true rfl)) dX1_daysOf30_37 ⟨Nat.zero_le _, Nat.zero_le _⟩) ?_
    refine lv_iload_n hx hb dX1_daysOf30_40 rfl (lv_at hl 1 rfl) ?_
    obtain ⟨v6, hv6, hf⟩ := ob hf
    refine cSi (W.runS (As := [.int a0]) (rest := [.int v5, .int 360]) ⟨hx, hb, hml, hown, hts⟩ (m_X1_yearOf l D cI cJ cO ah a0 v6 hv6) (va_cwS 1 hts gX1_daysOf30_X1_yearOf rfl rfl rfl (by decide +kernel) ⟨Nat.le_of_ble_eq_true rfl, Nat.le_of_ble_eq_true rfl⟩) ⟨pw_blind, fun U hU hW => ⟨rfl, pw_at hZ va_S.rf hP hK hU hW (Or.inr rfl) [] rfl⟩⟩ rfl rfl hl.1 rfl (lv_room (Nat.le_of_ble_eq_true rfl)) dX1_daysOf30_41 ⟨Nat.zero_le _, Nat.zero_le _⟩) ?_
    refine lv_isub hx hb dX1_daysOf30_44 ?_
    refine lv_imul hx hb dX1_daysOf30_45 ?_
    refine lv_bipush (v := 30) hx hb dX1_daysOf30_46 (by decide) ?_
    refine lv_iload_n hx hb dX1_daysOf30_48 rfl (lv_at hl 2 rfl) ?_
    obtain ⟨v7, hv7, hf⟩ := ob hf
    refine cSi (W.runS (As := [.int a1]) (rest := [.int 30, .int (360 * (v5 - v6))]) ⟨hx, hb, hml, hown, hts⟩ (m_X1_monthOf l D cI cJ cO ah a1 v7 hv7) (va_cwS 1 hts gX1_daysOf30_X1_monthOf rfl rfl rfl (by decide +kernel) ⟨Nat.le_of_ble_eq_true rfl, Nat.le_of_ble_eq_true rfl⟩) ⟨pw_blind, fun U hU hW => ⟨rfl, pw_at hZ va_S.rf hP hK hU hW (Or.inr rfl) [] rfl⟩⟩ rfl rfl hl.1 rfl (lv_room (Nat.le_of_ble_eq_true rfl)) dX1_daysOf30_49 ⟨Nat.zero_le _, Nat.zero_le _⟩) ?_
    refine lv_iload_n hx hb dX1_daysOf30_52 rfl (lv_at hl 1 rfl) ?_
    obtain ⟨v8, hv8, hf⟩ := ob hf
    refine cSi (W.runS (As := [.int a0]) (rest := [.int v7, .int 30, .int (360 * (v5 - v6))]) ⟨hx, hb, hml, hown, hts⟩ (m_X1_monthOf l D cI cJ cO ah a0 v8 hv8) (va_cwS 1 hts gX1_daysOf30_X1_monthOf rfl rfl rfl (by decide +kernel) ⟨Nat.le_of_ble_eq_true rfl, Nat.le_of_ble_eq_true rfl⟩) ⟨pw_blind, fun U hU hW => ⟨rfl, pw_at hZ va_S.rf hP hK hU hW (Or.inr rfl) [] rfl⟩⟩ rfl rfl hl.1 rfl (lv_room (Nat.le_of_ble_eq_true rfl)) dX1_daysOf30_53 ⟨Nat.zero_le _, Nat.zero_le _⟩) ?_
    refine lv_isub hx hb dX1_daysOf30_56 ?_
    refine lv_imul hx hb dX1_daysOf30_57 ?_
    refine lv_iadd hx hb dX1_daysOf30_58 ?_
    refine lv_iload_n hx hb dX1_daysOf30_59 rfl (lv_at hl 0 rfl) ?_
    refine lv_iadd hx hb dX1_daysOf30_60 ?_
    refine lv_iload_n hx hb dX1_daysOf30_61 rfl (lv_at hl 3 rfl) ?_
    refine lv_isub hx hb dX1_daysOf30_62 ?_
    exact W.iret hx hb hr (fun t ht _ => ⟨_, rfl, Option.some.inj hf, ht⟩) (fun q hq => absurd hq List.not_mem_nil) dX1_daysOf30_63
  refine lv_icmp_ne (tgt := 28) hx hb dX1_daysOf30_13 (by decide) (fun c9 => ?_) (fun c9 => ?_)
  · have hf := ie hf c9
    refine lv_iload_n hx hb dX1_daysOf30_28 rfl (lv_at hl 2 rfl) ?_
    obtain ⟨v10, hv10, hf⟩ := ob hf
    refine cSi (W.runS (As := [.int a1]) (rest := []) ⟨hx, hb, hml, hown, hts⟩ (m_X1_dayOf l D cI cJ cO ah a1 v10 hv10) (va_cwS 1 hts gX1_daysOf30_X1_dayOf rfl rfl rfl (by decide +kernel) ⟨Nat.le_of_ble_eq_true rfl, Nat.le_of_ble_eq_true rfl⟩) ⟨pw_blind, fun U hU hW => ⟨rfl, pw_at hZ va_S.rf hP hK hU hW (Or.inr rfl) [] rfl⟩⟩ rfl rfl hl.1 rfl (lv_room (Nat.le_of_ble_eq_true rfl)) dX1_daysOf30_29 ⟨Nat.zero_le _, Nat.zero_le _⟩) ?_
    exact JK3 v10 ls (lv_sub hl [1, 2, 0] rfl) hf
  · have hf := it hf c9
    refine lv_iload_n hx hb dX1_daysOf30_16 rfl (lv_at hl 2 rfl) ?_
    obtain ⟨v11, hv11, hf⟩ := ob hf
    refine cSi (W.runS (As := [.int a1]) (rest := []) ⟨hx, hb, hml, hown, hts⟩ (m_X1_dayOf l D cI cJ cO ah a1 v11 hv11) (va_cwS 1 hts gX1_daysOf30_X1_dayOf rfl rfl rfl (by decide +kernel) ⟨Nat.le_of_ble_eq_true rfl, Nat.le_of_ble_eq_true rfl⟩) ⟨pw_blind, fun U hU hW => ⟨rfl, pw_at hZ va_S.rf hP hK hU hW (Or.inr rfl) [] rfl⟩⟩ rfl rfl hl.1 rfl (lv_room (Nat.le_of_ble_eq_true rfl)) dX1_daysOf30_17 ⟨Nat.zero_le _, Nat.zero_le _⟩) ?_
    refine lv_bipush (v := 30) hx hb dX1_daysOf30_20 (by decide) ?_
    refine va_mmin hx hb (hml.trans hl.1.symm) hown (hts (.methodLink RX1 34 Lib.Math.min.name) (by decide +kernel)) (hts (.static Lib.Math.min.name) (by decide +kernel)) (hts (.initialized "java/lang/Math") (by decide +kernel)) (hts (.code Lib.Math.min.name Lib.Math.min.code 2 (some .int)) (by decide +kernel)) (Nat.le_of_ble_eq_true rfl) (Nat.le_of_ble_eq_true rfl) (Nat.zero_le _) (Nat.zero_le _) dX1_daysOf30_22 ?_
    refine lv_topi (fun x12 ex12 => ?_)
    have hf := bd_s hf ex12
    refine lv_goto (tgt := 32) hx hb dX1_daysOf30_25 (by decide) ?_
    exact JK3 x12 ls (lv_sub hl [1, 2, 0] rfl) hf
def f_X1_monthsBack (a0 : Int32) (a1 : Int32) : Option Int32 :=
  (f_X1_yearOf a0).bind fun v1 : Int32 => (f_X1_monthOf a0).bind fun v2 : Int32 => bd ((((12 * v1) + v2) - 1) - a1 : Int32) fun x3 : Int32 => bd (x3 / 12 : Int32) fun x4 : Int32 => bd ((x3 - x3 / 12 * 12) + 1 : Int32) fun x5 : Int32 => (f_X1_monthLength x4 x5).bind fun v6 : Int32 => (f_X1_dayOf a0).bind fun v7 : Int32 => (f_X1_yearOf a0).bind fun v8 : Int32 => (f_X1_monthOf a0).bind fun v9 : Int32 => (f_X1_monthLength v8 v9).bind fun v10 : Int32 => jn (fun (x12 : Int32) => jn (fun (x14 : Int32) => some (((10000 * x4) + (100 * x5)) + x14)) fun K13 => (if x12 = 0 then (f_X1_dayOf a0).bind fun v16 : Int32 => bd (if v6 < v16 then v6 else v16 : Int32) fun x17 : Int32 => K13 x17 else K13 v6)) fun K11 => (if v7 = v10 then K11 1 else K11 0)
set_option maxHeartbeats 4000000 in
set_option maxRecDepth 100000 in
theorem m_X1_monthsBack (l : Launch) (D : va_G) (cI cJ cO : ClassId) (ah : Nat)  (a0 : Int32) (a1 : Int32) (r : Int32) (hf : f_X1_monthsBack a0 a1 = some r) : Met l yX1_monthsBack wsX1_monthsBack ({ frames := 1, cells := 0, slots := 0, locals := 21 }) (va_Pc [.int a0, .int a1] (pw D (ty3 cI cJ cO) (some ah) [])) (QSi r) 0 0 (fun _ => False) := by
  refine Met.ofW (cc := cX1_monthsBack) (maxL := 8) (ret := (some .int)) (by decide) rfl ?_
  intro p e s m args below meth c s₁ Bd hml hv
  obtain ⟨rfl, hZ, hP, hK⟩ := hv
  have hx := Bd.exec
  have hb := Bd.bytes
  have hr := Bd.returns
  have hts := atoms_spec (ws := wsX1_monthsBack) Bd.pre
  have hown : s.vm.findClass RX1 = some m.cls := findClass_of_methodNamed Bd.named
  have hlocks := Bd.notSynchronized
  have hl := lv_entry ([.int a0, .int a1]) (n := 8) (Nat.le_of_ble_eq_true rfl)
  rw [lg_entry_eq]
  generalize (lg_sl ([.int a0, .int a1]) ++ List.replicate (8 - (lg_sl ([.int a0, .int a1])).length) Slot.unset).toArray = ls at hl ⊢
  have hl : lv_has ls 8 [(0, .int a0), (1, .int a1)] := hl
  unfold f_X1_monthsBack at hf
  refine lv_bipush (v := 12) hx hb dX1_monthsBack_0 (by decide) ?_
  refine lv_iload_n hx hb dX1_monthsBack_2 rfl (lv_at hl 0 rfl) ?_
  obtain ⟨v1, hv1, hf⟩ := ob hf
  refine cSi (W.runS (As := [.int a0]) (rest := [.int 12]) ⟨hx, hb, hml, hown, hts⟩ (m_X1_yearOf l D cI cJ cO ah a0 v1 hv1) (va_cwS 1 hts gX1_monthsBack_X1_yearOf rfl rfl rfl (by decide +kernel) ⟨Nat.le_of_ble_eq_true rfl, Nat.le_of_ble_eq_true rfl⟩) ⟨pw_blind, fun U hU hW => ⟨rfl, pw_at hZ va_S.rf hP hK hU hW (Or.inr rfl) [] rfl⟩⟩ rfl rfl hl.1 rfl (lv_room (Nat.le_of_ble_eq_true rfl)) dX1_monthsBack_3 ⟨Nat.zero_le _, Nat.zero_le _⟩) ?_
  refine lv_imul hx hb dX1_monthsBack_6 ?_
  refine lv_iload_n hx hb dX1_monthsBack_7 rfl (lv_at hl 0 rfl) ?_
  obtain ⟨v2, hv2, hf⟩ := ob hf
  refine cSi (W.runS (As := [.int a0]) (rest := [.int (12 * v1)]) ⟨hx, hb, hml, hown, hts⟩ (m_X1_monthOf l D cI cJ cO ah a0 v2 hv2) (va_cwS 1 hts gX1_monthsBack_X1_monthOf rfl rfl rfl (by decide +kernel) ⟨Nat.le_of_ble_eq_true rfl, Nat.le_of_ble_eq_true rfl⟩) ⟨pw_blind, fun U hU hW => ⟨rfl, pw_at hZ va_S.rf hP hK hU hW (Or.inr rfl) [] rfl⟩⟩ rfl rfl hl.1 rfl (lv_room (Nat.le_of_ble_eq_true rfl)) dX1_monthsBack_8 ⟨Nat.zero_le _, Nat.zero_le _⟩) ?_
  refine lv_iadd hx hb dX1_monthsBack_11 ?_
  refine lv_iconst (v := 1) hx hb dX1_monthsBack_12 (by decide) ?_
  refine lv_isub hx hb dX1_monthsBack_13 ?_
  refine lv_iload_n hx hb dX1_monthsBack_14 rfl (lv_at hl 1 rfl) ?_
  refine lv_isub hx hb dX1_monthsBack_15 ?_
  refine lv_topi (fun x3 ex3 => ?_)
  have hf := bd_s hf ex3
  refine lv_istore_n (lv' := [(2, .int x3), (0, .int a0), (1, .int a1)]) hx hb dX1_monthsBack_16 rfl hl (by decide) rfl (fun ls hl => ?_)
  refine lv_iload_n hx hb dX1_monthsBack_17 rfl (lv_at hl 0 rfl) ?_
  refine lv_bipush (v := 12) hx hb dX1_monthsBack_18 (by decide) ?_
  refine lv_idiv hx hb dX1_monthsBack_20 (by decide) ?_
  refine lv_topi (fun x4 ex4 => ?_)
  have hf := bd_s hf ex4
  refine lv_istore_n (lv' := [(3, .int x4), (2, .int x3), (0, .int a0), (1, .int a1)]) hx hb dX1_monthsBack_21 rfl hl (by decide) rfl (fun ls hl => ?_)
  refine lv_iload_n hx hb dX1_monthsBack_22 rfl (lv_at hl 1 rfl) ?_
  refine lv_bipush (v := 12) hx hb dX1_monthsBack_23 (by decide) ?_
  refine lv_irem hx hb dX1_monthsBack_25 (by decide) ?_
  refine lv_iconst (v := 1) hx hb dX1_monthsBack_26 (by decide) ?_
  refine lv_iadd hx hb dX1_monthsBack_27 ?_
  refine lv_topi (fun x5 ex5 => ?_)
  have hf := bd_s hf ex5
  refine lv_istore (lv' := [(4, .int x5), (3, .int x4), (2, .int x3), (0, .int a0), (1, .int a1)]) hx hb dX1_monthsBack_28 hl (by decide) rfl (fun ls hl => ?_)
  refine lv_iload_n hx hb dX1_monthsBack_30 rfl (lv_at hl 1 rfl) ?_
  refine lv_iload hx hb dX1_monthsBack_31 (lv_at hl 0 rfl) ?_
  obtain ⟨v6, hv6, hf⟩ := ob hf
  refine cSi (W.runS (As := [.int x4, .int x5]) (rest := []) ⟨hx, hb, hml, hown, hts⟩ (m_X1_monthLength l D cI cJ cO ah x4 x5 v6 hv6) (va_cwS 2 hts gX1_monthsBack_X1_monthLength rfl rfl rfl (by decide +kernel) ⟨Nat.le_of_ble_eq_true rfl, Nat.le_of_ble_eq_true rfl⟩) ⟨pw_blind, fun U hU hW => ⟨rfl, pw_at hZ va_S.rf hP hK hU hW (Or.inr rfl) [] rfl⟩⟩ rfl rfl hl.1 rfl (lv_room (Nat.le_of_ble_eq_true rfl)) dX1_monthsBack_33 ⟨Nat.zero_le _, Nat.zero_le _⟩) ?_
  refine lv_istore (lv' := [(5, .int v6), (4, .int x5), (3, .int x4), (2, .int x3), (0, .int a0), (1, .int a1)]) hx hb dX1_monthsBack_36 hl (by decide) rfl (fun ls hl => ?_)
  refine lv_iload_n hx hb dX1_monthsBack_38 rfl (lv_at hl 4 rfl) ?_
  obtain ⟨v7, hv7, hf⟩ := ob hf
  refine cSi (W.runS (As := [.int a0]) (rest := []) ⟨hx, hb, hml, hown, hts⟩ (m_X1_dayOf l D cI cJ cO ah a0 v7 hv7) (va_cwS 1 hts gX1_monthsBack_X1_dayOf rfl rfl rfl (by decide +kernel) ⟨Nat.le_of_ble_eq_true rfl, Nat.le_of_ble_eq_true rfl⟩) ⟨pw_blind, fun U hU hW => ⟨rfl, pw_at hZ va_S.rf hP hK hU hW (Or.inr rfl) [] rfl⟩⟩ rfl rfl hl.1 rfl (lv_room (Nat.le_of_ble_eq_true rfl)) dX1_monthsBack_39 ⟨Nat.zero_le _, Nat.zero_le _⟩) ?_
  refine lv_iload_n hx hb dX1_monthsBack_42 rfl (lv_at hl 4 rfl) ?_
  obtain ⟨v8, hv8, hf⟩ := ob hf
  refine cSi (W.runS (As := [.int a0]) (rest := [.int v7]) ⟨hx, hb, hml, hown, hts⟩ (m_X1_yearOf l D cI cJ cO ah a0 v8 hv8) (va_cwS 1 hts gX1_monthsBack_X1_yearOf rfl rfl rfl (by decide +kernel) ⟨Nat.le_of_ble_eq_true rfl, Nat.le_of_ble_eq_true rfl⟩) ⟨pw_blind, fun U hU hW => ⟨rfl, pw_at hZ va_S.rf hP hK hU hW (Or.inr rfl) [] rfl⟩⟩ rfl rfl hl.1 rfl (lv_room (Nat.le_of_ble_eq_true rfl)) dX1_monthsBack_43 ⟨Nat.zero_le _, Nat.zero_le _⟩) ?_
  refine lv_iload_n hx hb dX1_monthsBack_46 rfl (lv_at hl 4 rfl) ?_
  obtain ⟨v9, hv9, hf⟩ := ob hf
  refine cSi (W.runS (As := [.int a0]) (rest := [.int v8, .int v7]) ⟨hx, hb, hml, hown, hts⟩ (m_X1_monthOf l D cI cJ cO ah a0 v9 hv9) (va_cwS 1 hts gX1_monthsBack_X1_monthOf rfl rfl rfl (by decide +kernel) ⟨Nat.le_of_ble_eq_true rfl, Nat.le_of_ble_eq_true rfl⟩) ⟨pw_blind, fun U hU hW => ⟨rfl, pw_at hZ va_S.rf hP hK hU hW (Or.inr rfl) [] rfl⟩⟩ rfl rfl hl.1 rfl (lv_room (Nat.le_of_ble_eq_true rfl)) dX1_monthsBack_47 ⟨Nat.zero_le _, Nat.zero_le _⟩) ?_
  obtain ⟨v10, hv10, hf⟩ := ob hf
  refine cSi (W.runS (As := [.int v8, .int v9]) (rest := [.int v7]) ⟨hx, hb, hml, hown, hts⟩ (m_X1_monthLength l D cI cJ cO ah v8 v9 v10 hv10) (va_cwS 2 hts gX1_monthsBack_X1_monthLength rfl rfl rfl (by decide +kernel) ⟨Nat.le_of_ble_eq_true rfl, Nat.le_of_ble_eq_true rfl⟩) ⟨pw_blind, fun U hU hW => ⟨rfl, pw_at hZ va_S.rf hP hK hU hW (Or.inr rfl) [] rfl⟩⟩ rfl rfl hl.1 rfl (lv_room (Nat.le_of_ble_eq_true rfl)) dX1_monthsBack_50 ⟨Nat.zero_le _, Nat.zero_le _⟩) ?_
  obtain ⟨K11, hK11, hf⟩ := jn_s hf
  have JK11 : ∀ (x12 : Int32) (ls : Array Slot), lv_has ls 8 [(0, .int a0), (3, .int x4), (4, .int x5), (5, .int v6)] → K11 x12 = some r → W p l e (headSpec wsX1_monthsBack ({ frames := 1, cells := 0, slots := 0, locals := 21 })).room s m ([.int a0, .int a1] : List Value).toArray below meth c s.heap [] 0 0 (MQ below (QSi r) ([.int a0, .int a1] : List Value).toArray s 0 0 (fun _ => False)) (F0 m 61 ls [.int x12]) := by
    intro x12 ls hl hf
    rw [hK11] at hf
    refine lv_istore (lv' := [(6, .int x12), (0, .int a0), (3, .int x4), (4, .int x5), (5, .int v6)]) hx hb dX1_monthsBack_61 hl (by decide) rfl (fun ls hl => ?_)
    refine lv_iload hx hb dX1_monthsBack_63 (lv_at hl 0 rfl) ?_
    obtain ⟨K13, hK13, hf⟩ := jn_s hf
    have JK13 : ∀ (x14 : Int32) (ls : Array Slot), lv_has ls 8 [(3, .int x4), (4, .int x5)] → K13 x14 = some r → W p l e (headSpec wsX1_monthsBack ({ frames := 1, cells := 0, slots := 0, locals := 21 })).room s m ([.int a0, .int a1] : List Value).toArray below meth c s.heap [] 0 0 (MQ below (QSi r) ([.int a0, .int a1] : List Value).toArray s 0 0 (fun _ => False)) (F0 m 82 ls [.int x14]) := by
      intro x14 ls hl hf
      rw [hK13] at hf
      refine lv_istore (lv' := [(7, .int x14), (3, .int x4), (4, .int x5)]) hx hb dX1_monthsBack_82 hl (by decide) rfl (fun ls hl => ?_)
      refine lv_sipush (v := 10000) hx hb dX1_monthsBack_84 (by decide) ?_
      refine lv_iload_n hx hb dX1_monthsBack_87 rfl (lv_at hl 1 rfl) ?_
      refine lv_imul hx hb dX1_monthsBack_88 ?_
      refine lv_bipush (v := 100) hx hb dX1_monthsBack_89 (by decide) ?_
      refine lv_iload hx hb dX1_monthsBack_91 (lv_at hl 2 rfl) ?_
      refine lv_imul hx hb dX1_monthsBack_93 ?_
      refine lv_iadd hx hb dX1_monthsBack_94 ?_
      refine lv_iload hx hb dX1_monthsBack_95 (lv_at hl 0 rfl) ?_
      refine lv_iadd hx hb dX1_monthsBack_97 ?_
      exact W.iret hx hb hr (fun t ht _ => ⟨_, rfl, Option.some.inj hf, ht⟩) (fun q hq => absurd hq List.not_mem_nil) dX1_monthsBack_98
    refine lv_if_eq (tgt := 73) hx hb dX1_monthsBack_65 (by decide) (fun c15 => ?_) (fun c15 => ?_)
    · have hf := it hf c15
      refine lv_iload_n hx hb dX1_monthsBack_73 rfl (lv_at hl 1 rfl) ?_
      obtain ⟨v16, hv16, hf⟩ := ob hf
      refine cSi (W.runS (As := [.int a0]) (rest := []) ⟨hx, hb, hml, hown, hts⟩ (m_X1_dayOf l D cI cJ cO ah a0 v16 hv16) (va_cwS 1 hts gX1_monthsBack_X1_dayOf rfl rfl rfl (by decide +kernel) ⟨Nat.le_of_ble_eq_true rfl, Nat.le_of_ble_eq_true rfl⟩) ⟨pw_blind, fun U hU hW => ⟨rfl, pw_at hZ va_S.rf hP hK hU hW (Or.inr rfl) [] rfl⟩⟩ rfl rfl hl.1 rfl (lv_room (Nat.le_of_ble_eq_true rfl)) dX1_monthsBack_74 ⟨Nat.zero_le _, Nat.zero_le _⟩) ?_
      refine lv_iload hx hb dX1_monthsBack_77 (lv_at hl 4 rfl) ?_
      refine va_mmin hx hb (hml.trans hl.1.symm) hown (hts (.methodLink RX1 34 Lib.Math.min.name) (by decide +kernel)) (hts (.static Lib.Math.min.name) (by decide +kernel)) (hts (.initialized "java/lang/Math") (by decide +kernel)) (hts (.code Lib.Math.min.name Lib.Math.min.code 2 (some .int)) (by decide +kernel)) (Nat.le_of_ble_eq_true rfl) (Nat.le_of_ble_eq_true rfl) (Nat.zero_le _) (Nat.zero_le _) dX1_monthsBack_79 ?_
      refine lv_topi (fun x17 ex17 => ?_)
      have hf := bd_s hf ex17
      exact JK13 x17 ls (lv_sub hl [2, 3] rfl) hf
    · have hf := ie hf c15
      refine lv_iload hx hb dX1_monthsBack_68 (lv_at hl 4 rfl) ?_
      refine lv_goto (tgt := 82) hx hb dX1_monthsBack_70 (by decide) ?_
      exact JK13 v6 ls (lv_sub hl [2, 3] rfl) hf
  refine lv_icmp_ne (tgt := 60) hx hb dX1_monthsBack_53 (by decide) (fun c18 => ?_) (fun c18 => ?_)
  · have hf := ie hf c18
    refine lv_iconst (v := 0) hx hb dX1_monthsBack_60 (by decide) ?_
    exact JK11 0 ls (lv_sub hl [4, 2, 1, 0] rfl) hf
  · have hf := it hf c18
    refine lv_iconst (v := 1) hx hb dX1_monthsBack_56 (by decide) ?_
    refine lv_goto (tgt := 61) hx hb dX1_monthsBack_57 (by decide) ?_
    exact JK11 1 ls (lv_sub hl [4, 2, 1, 0] rfl) hf
