def f_X1_yearOf (a0 : Int32) : Option Int32 :=
  some (a0 / 10000)
set_option maxHeartbeats 4000000 in
set_option maxRecDepth 100000 in
theorem m_X1_yearOf (l : Launch) (D : va_G) (cI cJ cO : ClassId) (ah : Nat)  (a0 : Int32) (r : Int32) (hf : f_X1_yearOf a0 = some r) : Met l yX1_yearOf wsX1_yearOf ({ frames := 0, cells := 0, slots := 0, locals := 0 }) (va_Pc [.int a0] (pw D (ty3 cI cJ cO) (some ah) [])) (QSi r) 0 0 (fun _ => False) := by
  refine Met.ofW (cc := cX1_yearOf) (maxL := 1) (ret := (some .int)) (by decide) rfl ?_
  intro p e s m args below meth c s₁ Bd hml hv
  obtain ⟨rfl, hZ, hP, hK⟩ := hv
  have hx := Bd.exec
  have hb := Bd.bytes
  have hr := Bd.returns
  have hts := atoms_spec (ws := wsX1_yearOf) Bd.pre
  have hown : s.vm.findClass RX1 = some m.cls := findClass_of_methodNamed Bd.named
  have hlocks := Bd.notSynchronized
  have hl := lv_entry ([.int a0]) (n := 1) (Nat.le_of_ble_eq_true rfl)
  rw [lg_entry_eq]
  generalize (lg_sl ([.int a0]) ++ List.replicate (1 - (lg_sl ([.int a0])).length) Slot.unset).toArray = ls at hl ⊢
  have hl : lv_has ls 1 [(0, .int a0)] := hl
  unfold f_X1_yearOf at hf
  refine lv_iload_n hx hb dX1_yearOf_0 rfl (lv_at hl 0 rfl) ?_
  refine lv_sipush (v := 10000) hx hb dX1_yearOf_1 (by decide) ?_
  refine lv_idiv hx hb dX1_yearOf_4 (by decide) ?_
  exact W.iret hx hb hr (fun t ht _ => ⟨_, rfl, Option.some.inj hf, ht⟩) (fun q hq => absurd hq List.not_mem_nil) dX1_yearOf_5
def f_X1_monthOf (a0 : Int32) : Option Int32 :=
  some ((a0 / 100) - (a0 / 100) / 100 * 100)
set_option maxHeartbeats 4000000 in
set_option maxRecDepth 100000 in
theorem m_X1_monthOf (l : Launch) (D : va_G) (cI cJ cO : ClassId) (ah : Nat)  (a0 : Int32) (r : Int32) (hf : f_X1_monthOf a0 = some r) : Met l yX1_monthOf wsX1_monthOf ({ frames := 0, cells := 0, slots := 0, locals := 0 }) (va_Pc [.int a0] (pw D (ty3 cI cJ cO) (some ah) [])) (QSi r) 0 0 (fun _ => False) := by
  refine Met.ofW (cc := cX1_monthOf) (maxL := 1) (ret := (some .int)) (by decide) rfl ?_
  intro p e s m args below meth c s₁ Bd hml hv
  obtain ⟨rfl, hZ, hP, hK⟩ := hv
  have hx := Bd.exec
  have hb := Bd.bytes
  have hr := Bd.returns
  have hts := atoms_spec (ws := wsX1_monthOf) Bd.pre
  have hown : s.vm.findClass RX1 = some m.cls := findClass_of_methodNamed Bd.named
  have hlocks := Bd.notSynchronized
  have hl := lv_entry ([.int a0]) (n := 1) (Nat.le_of_ble_eq_true rfl)
  rw [lg_entry_eq]
  generalize (lg_sl ([.int a0]) ++ List.replicate (1 - (lg_sl ([.int a0])).length) Slot.unset).toArray = ls at hl ⊢
  have hl : lv_has ls 1 [(0, .int a0)] := hl
  unfold f_X1_monthOf at hf
  refine lv_iload_n hx hb dX1_monthOf_0 rfl (lv_at hl 0 rfl) ?_
  refine lv_bipush (v := 100) hx hb dX1_monthOf_1 (by decide) ?_
  refine lv_idiv hx hb dX1_monthOf_3 (by decide) ?_
  refine lv_bipush (v := 100) hx hb dX1_monthOf_4 (by decide) ?_
  refine lv_irem hx hb dX1_monthOf_6 (by decide) ?_
  exact W.iret hx hb hr (fun t ht _ => ⟨_, rfl, Option.some.inj hf, ht⟩) (fun q hq => absurd hq List.not_mem_nil) dX1_monthOf_7
def f_X1_dayOf (a0 : Int32) : Option Int32 :=
  some (a0 - a0 / 100 * 100)
set_option maxHeartbeats 4000000 in
set_option maxRecDepth 100000 in
theorem m_X1_dayOf (l : Launch) (D : va_G) (cI cJ cO : ClassId) (ah : Nat)  (a0 : Int32) (r : Int32) (hf : f_X1_dayOf a0 = some r) : Met l yX1_dayOf wsX1_dayOf ({ frames := 0, cells := 0, slots := 0, locals := 0 }) (va_Pc [.int a0] (pw D (ty3 cI cJ cO) (some ah) [])) (QSi r) 0 0 (fun _ => False) := by
  refine Met.ofW (cc := cX1_dayOf) (maxL := 1) (ret := (some .int)) (by decide) rfl ?_
  intro p e s m args below meth c s₁ Bd hml hv
  obtain ⟨rfl, hZ, hP, hK⟩ := hv
  have hx := Bd.exec
  have hb := Bd.bytes
  have hr := Bd.returns
  have hts := atoms_spec (ws := wsX1_dayOf) Bd.pre
  have hown : s.vm.findClass RX1 = some m.cls := findClass_of_methodNamed Bd.named
  have hlocks := Bd.notSynchronized
  have hl := lv_entry ([.int a0]) (n := 1) (Nat.le_of_ble_eq_true rfl)
  rw [lg_entry_eq]
  generalize (lg_sl ([.int a0]) ++ List.replicate (1 - (lg_sl ([.int a0])).length) Slot.unset).toArray = ls at hl ⊢
  have hl : lv_has ls 1 [(0, .int a0)] := hl
  unfold f_X1_dayOf at hf
  refine lv_iload_n hx hb dX1_dayOf_0 rfl (lv_at hl 0 rfl) ?_
  refine lv_bipush (v := 100) hx hb dX1_dayOf_1 (by decide) ?_
  refine lv_irem hx hb dX1_dayOf_3 (by decide) ?_
  exact W.iret hx hb hr (fun t ht _ => ⟨_, rfl, Option.some.inj hf, ht⟩) (fun q hq => absurd hq List.not_mem_nil) dX1_dayOf_4
def f_X1_monthLength (a0 : Int32) (a1 : Int32) : Option Int32 :=
  (if a1 = 2 then (if (a0 - a0 / 4 * 4) = 0 then some 29 else some 28) else (if a1 = 4 then some 30 else (if a1 = 6 then some 30 else (if a1 = 9 then some 30 else (if a1 = 11 then some 30 else some 31)))))
set_option maxHeartbeats 4000000 in
set_option maxRecDepth 100000 in
theorem m_X1_monthLength (l : Launch) (D : va_G) (cI cJ cO : ClassId) (ah : Nat)  (a0 : Int32) (a1 : Int32) (r : Int32) (hf : f_X1_monthLength a0 a1 = some r) : Met l yX1_monthLength wsX1_monthLength ({ frames := 0, cells := 0, slots := 0, locals := 0 }) (va_Pc [.int a0, .int a1] (pw D (ty3 cI cJ cO) (some ah) [])) (QSi r) 0 0 (fun _ => False) := by
  refine Met.ofW (cc := cX1_monthLength) (maxL := 2) (ret := (some .int)) (by decide) rfl ?_
  intro p e s m args below meth c s₁ Bd hml hv
  obtain ⟨rfl, hZ, hP, hK⟩ := hv
  have hx := Bd.exec
  have hb := Bd.bytes
  have hr := Bd.returns
  have hts := atoms_spec (ws := wsX1_monthLength) Bd.pre
  have hown : s.vm.findClass RX1 = some m.cls := findClass_of_methodNamed Bd.named
  have hlocks := Bd.notSynchronized
  have hl := lv_entry ([.int a0, .int a1]) (n := 2) (Nat.le_of_ble_eq_true rfl)
  rw [lg_entry_eq]
  generalize (lg_sl ([.int a0, .int a1]) ++ List.replicate (2 - (lg_sl ([.int a0, .int a1])).length) Slot.unset).toArray = ls at hl ⊢
  have hl : lv_has ls 2 [(0, .int a0), (1, .int a1)] := hl
  unfold f_X1_monthLength at hf
  refine lv_iload_n hx hb dX1_monthLength_0 rfl (lv_at hl 1 rfl) ?_
  refine lv_iconst (v := 2) hx hb dX1_monthLength_1 (by decide) ?_
  refine lv_icmp_ne (tgt := 19) hx hb dX1_monthLength_2 (by decide) (fun c1 => ?_) (fun c1 => ?_)
  · have hf := ie hf c1
    refine lv_iload_n hx hb dX1_monthLength_19 rfl (lv_at hl 1 rfl) ?_
    refine lv_iconst (v := 4) hx hb dX1_monthLength_20 (by decide) ?_
    refine lv_icmp_eq (tgt := 42) hx hb dX1_monthLength_21 (by decide) (fun c2 => ?_) (fun c2 => ?_)
    · have hf := it hf c2
      refine lv_bipush (v := 30) hx hb dX1_monthLength_42 (by decide) ?_
      refine lv_goto (tgt := 49) hx hb dX1_monthLength_44 (by decide) ?_
      exact W.iret hx hb hr (fun t ht _ => ⟨_, rfl, Option.some.inj hf, ht⟩) (fun q hq => absurd hq List.not_mem_nil) dX1_monthLength_49
    · have hf := ie hf c2
      refine lv_iload_n hx hb dX1_monthLength_24 rfl (lv_at hl 1 rfl) ?_
      refine lv_bipush (v := 6) hx hb dX1_monthLength_25 (by decide) ?_
      refine lv_icmp_eq (tgt := 42) hx hb dX1_monthLength_27 (by decide) (fun c3 => ?_) (fun c3 => ?_)
      · have hf := it hf c3
        refine lv_bipush (v := 30) hx hb dX1_monthLength_42 (by decide) ?_
        refine lv_goto (tgt := 49) hx hb dX1_monthLength_44 (by decide) ?_
        exact W.iret hx hb hr (fun t ht _ => ⟨_, rfl, Option.some.inj hf, ht⟩) (fun q hq => absurd hq List.not_mem_nil) dX1_monthLength_49
      · have hf := ie hf c3
        refine lv_iload_n hx hb dX1_monthLength_30 rfl (lv_at hl 1 rfl) ?_
        refine lv_bipush (v := 9) hx hb dX1_monthLength_31 (by decide) ?_
        refine lv_icmp_eq (tgt := 42) hx hb dX1_monthLength_33 (by decide) (fun c4 => ?_) (fun c4 => ?_)
        · have hf := it hf c4
          refine lv_bipush (v := 30) hx hb dX1_monthLength_42 (by decide) ?_
          refine lv_goto (tgt := 49) hx hb dX1_monthLength_44 (by decide) ?_
          exact W.iret hx hb hr (fun t ht _ => ⟨_, rfl, Option.some.inj hf, ht⟩) (fun q hq => absurd hq List.not_mem_nil) dX1_monthLength_49
        · have hf := ie hf c4
          refine lv_iload_n hx hb dX1_monthLength_36 rfl (lv_at hl 1 rfl) ?_
          refine lv_bipush (v := 11) hx hb dX1_monthLength_37 (by decide) ?_
          refine lv_icmp_ne (tgt := 47) hx hb dX1_monthLength_39 (by decide) (fun c5 => ?_) (fun c5 => ?_)
          · have hf := ie hf c5
            refine lv_bipush (v := 31) hx hb dX1_monthLength_47 (by decide) ?_
            exact W.iret hx hb hr (fun t ht _ => ⟨_, rfl, Option.some.inj hf, ht⟩) (fun q hq => absurd hq List.not_mem_nil) dX1_monthLength_49
          · have hf := it hf c5
            refine lv_bipush (v := 30) hx hb dX1_monthLength_42 (by decide) ?_
            refine lv_goto (tgt := 49) hx hb dX1_monthLength_44 (by decide) ?_
            exact W.iret hx hb hr (fun t ht _ => ⟨_, rfl, Option.some.inj hf, ht⟩) (fun q hq => absurd hq List.not_mem_nil) dX1_monthLength_49
  · have hf := it hf c1
    refine lv_iload_n hx hb dX1_monthLength_5 rfl (lv_at hl 0 rfl) ?_
    refine lv_iconst (v := 4) hx hb dX1_monthLength_6 (by decide) ?_
    refine lv_irem hx hb dX1_monthLength_7 (by decide) ?_
    refine lv_if_ne (tgt := 16) hx hb dX1_monthLength_8 (by decide) (fun c6 => ?_) (fun c6 => ?_)
    · have hf := ie hf c6
      refine lv_bipush (v := 28) hx hb dX1_monthLength_16 (by decide) ?_
      exact W.iret hx hb hr (fun t ht _ => ⟨_, rfl, Option.some.inj hf, ht⟩) (fun q hq => absurd hq List.not_mem_nil) dX1_monthLength_18
    · have hf := it hf c6
      refine lv_bipush (v := 29) hx hb dX1_monthLength_11 (by decide) ?_
      refine lv_goto (tgt := 18) hx hb dX1_monthLength_13 (by decide) ?_
      exact W.iret hx hb hr (fun t ht _ => ⟨_, rfl, Option.some.inj hf, ht⟩) (fun q hq => absurd hq List.not_mem_nil) dX1_monthLength_18
def f_X1_isDate (a0 : Int32) : Option Int32 :=
  (if a0 < 20160101 then some 0 else (if a0 ≤ 20661231 then (f_X1_monthOf a0).bind fun v3 : Int32 => (f_X1_dayOf a0).bind fun v4 : Int32 => (if v3 < 1 then some 0 else (if 12 < v3 then some 0 else (if v4 < 1 then some 0 else (f_X1_yearOf a0).bind fun v8 : Int32 => (f_X1_monthLength v8 v3).bind fun v9 : Int32 => (if v9 < v4 then some 0 else some 1)))) else some 0))
set_option maxHeartbeats 4000000 in
set_option maxRecDepth 100000 in
theorem m_X1_isDate (l : Launch) (D : va_G) (cI cJ cO : ClassId) (ah : Nat)  (a0 : Int32) (r : Int32) (hf : f_X1_isDate a0 = some r) : Met l yX1_isDate wsX1_isDate ({ frames := 1, cells := 0, slots := 0, locals := 21 }) (va_Pc [.int a0] (pw D (ty3 cI cJ cO) (some ah) [])) (QSz r) 0 0 (fun _ => False) := by
  refine Met.ofW (cc := cX1_isDate) (maxL := 3) (ret := (some .boolean)) (by decide) rfl ?_
  intro p e s m args below meth c s₁ Bd hml hv
  obtain ⟨rfl, hZ, hP, hK⟩ := hv
  have hx := Bd.exec
  have hb := Bd.bytes
  have hr := Bd.returns
  have hts := atoms_spec (ws := wsX1_isDate) Bd.pre
  have hown : s.vm.findClass RX1 = some m.cls := findClass_of_methodNamed Bd.named
  have hlocks := Bd.notSynchronized
  have hl := lv_entry ([.int a0]) (n := 3) (Nat.le_of_ble_eq_true rfl)
  rw [lg_entry_eq]
  generalize (lg_sl ([.int a0]) ++ List.replicate (3 - (lg_sl ([.int a0])).length) Slot.unset).toArray = ls at hl ⊢
  have hl : lv_has ls 3 [(0, .int a0)] := hl
  unfold f_X1_isDate at hf
  refine lv_iload_n hx hb dX1_isDate_0 rfl (lv_at hl 0 rfl) ?_
  refine lv_ldc hx hb hown (hts (.constant RX1 11 (20160101)) (by decide +kernel)) dX1_isDate_1 ?_
  refine lv_icmp_lt (tgt := 12) hx hb dX1_isDate_3 (by decide) (fun c1 => ?_) (fun c1 => ?_)
  · have hf := it hf c1
    refine lv_iconst (v := 0) hx hb dX1_isDate_12 (by decide) ?_
    exact W.zret hx hb hr (zn (Or.inl rfl)) (fun t ht _ => ⟨_, rfl, ⟨Option.some.inj hf, (Or.inl rfl)⟩, ht⟩) (fun q hq => absurd hq List.not_mem_nil) dX1_isDate_13
  · have hf := ie hf c1
    refine lv_iload_n hx hb dX1_isDate_6 rfl (lv_at hl 0 rfl) ?_
    refine lv_ldc hx hb hown (hts (.constant RX1 12 (20661231)) (by decide +kernel)) dX1_isDate_7 ?_
    refine lv_icmp_le (tgt := 14) hx hb dX1_isDate_9 (by decide) (fun c2 => ?_) (fun c2 => ?_)
    · have hf := it hf c2
      refine lv_iload_n hx hb dX1_isDate_14 rfl (lv_at hl 0 rfl) ?_
      obtain ⟨v3, hv3, hf⟩ := ob hf
      refine cSi (W.runS (As := [.int a0]) (rest := []) ⟨hx, hb, hml, hown, hts⟩ (m_X1_monthOf l D cI cJ cO ah a0 v3 hv3) (va_cwS 1 hts gX1_isDate_X1_monthOf rfl rfl rfl (by decide +kernel) ⟨Nat.le_of_ble_eq_true rfl, Nat.le_of_ble_eq_true rfl⟩) ⟨pw_blind, fun U hU hW => ⟨rfl, pw_at hZ va_S.rf hP hK hU hW (Or.inr rfl) [] rfl⟩⟩ rfl rfl hl.1 rfl (lv_room (Nat.le_of_ble_eq_true rfl)) dX1_isDate_15 ⟨Nat.zero_le _, Nat.zero_le _⟩) ?_
      refine lv_istore_n (lv' := [(1, .int v3), (0, .int a0)]) hx hb dX1_isDate_18 rfl hl (by decide) rfl (fun ls hl => ?_)
      refine lv_iload_n hx hb dX1_isDate_19 rfl (lv_at hl 1 rfl) ?_
      obtain ⟨v4, hv4, hf⟩ := ob hf
      refine cSi (W.runS (As := [.int a0]) (rest := []) ⟨hx, hb, hml, hown, hts⟩ (m_X1_dayOf l D cI cJ cO ah a0 v4 hv4) (va_cwS 1 hts gX1_isDate_X1_dayOf rfl rfl rfl (by decide +kernel) ⟨Nat.le_of_ble_eq_true rfl, Nat.le_of_ble_eq_true rfl⟩) ⟨pw_blind, fun U hU hW => ⟨rfl, pw_at hZ va_S.rf hP hK hU hW (Or.inr rfl) [] rfl⟩⟩ rfl rfl hl.1 rfl (lv_room (Nat.le_of_ble_eq_true rfl)) dX1_isDate_20 ⟨Nat.zero_le _, Nat.zero_le _⟩) ?_
      refine lv_istore_n (lv' := [(2, .int v4), (1, .int v3), (0, .int a0)]) hx hb dX1_isDate_23 rfl hl (by decide) rfl (fun ls hl => ?_)
      refine lv_iload_n hx hb dX1_isDate_24 rfl (lv_at hl 1 rfl) ?_
      refine lv_iconst (v := 1) hx hb dX1_isDate_25 (by decide) ?_
      refine lv_icmp_lt (tgt := 56) hx hb dX1_isDate_26 (by decide) (fun c5 => ?_) (fun c5 => ?_)
      · have hf := it hf c5
        refine lv_iconst (v := 0) hx hb dX1_isDate_56 (by decide) ?_
        exact W.zret hx hb hr (zn (Or.inl rfl)) (fun t ht _ => ⟨_, rfl, ⟨Option.some.inj hf, (Or.inl rfl)⟩, ht⟩) (fun q hq => absurd hq List.not_mem_nil) dX1_isDate_57
      · have hf := ie hf c5
        refine lv_iload_n hx hb dX1_isDate_29 rfl (lv_at hl 1 rfl) ?_
        refine lv_bipush (v := 12) hx hb dX1_isDate_30 (by decide) ?_
        refine lv_icmp_gt (tgt := 56) hx hb dX1_isDate_32 (by decide) (fun c6 => ?_) (fun c6 => ?_)
        · have hf := it hf c6
          refine lv_iconst (v := 0) hx hb dX1_isDate_56 (by decide) ?_
          exact W.zret hx hb hr (zn (Or.inl rfl)) (fun t ht _ => ⟨_, rfl, ⟨Option.some.inj hf, (Or.inl rfl)⟩, ht⟩) (fun q hq => absurd hq List.not_mem_nil) dX1_isDate_57
        · have hf := ie hf c6
          refine lv_iload_n hx hb dX1_isDate_35 rfl (lv_at hl 0 rfl) ?_
          refine lv_iconst (v := 1) hx hb dX1_isDate_36 (by decide) ?_
          refine lv_icmp_lt (tgt := 56) hx hb dX1_isDate_37 (by decide) (fun c7 => ?_) (fun c7 => ?_)
          · have hf := it hf c7
            refine lv_iconst (v := 0) hx hb dX1_isDate_56 (by decide) ?_
            exact W.zret hx hb hr (zn (Or.inl rfl)) (fun t ht _ => ⟨_, rfl, ⟨Option.some.inj hf, (Or.inl rfl)⟩, ht⟩) (fun q hq => absurd hq List.not_mem_nil) dX1_isDate_57
          · have hf := ie hf c7
            refine lv_iload_n hx hb dX1_isDate_40 rfl (lv_at hl 0 rfl) ?_
            refine lv_iload_n hx hb dX1_isDate_41 rfl (lv_at hl 2 rfl) ?_
            obtain ⟨v8, hv8, hf⟩ := ob hf
            refine cSi (W.runS (As := [.int a0]) (rest := [.int v4]) ⟨hx, hb, hml, hown, hts⟩ (m_X1_yearOf l D cI cJ cO ah a0 v8 hv8) (va_cwS 1 hts gX1_isDate_X1_yearOf rfl rfl rfl (by decide +kernel) ⟨Nat.le_of_ble_eq_true rfl, Nat.le_of_ble_eq_true rfl⟩) ⟨pw_blind, fun U hU hW => ⟨rfl, pw_at hZ va_S.rf hP hK hU hW (Or.inr rfl) [] rfl⟩⟩ rfl rfl hl.1 rfl (lv_room (Nat.le_of_ble_eq_true rfl)) dX1_isDate_42 ⟨Nat.zero_le _, Nat.zero_le _⟩) ?_
            refine lv_iload_n hx hb dX1_isDate_45 rfl (lv_at hl 1 rfl) ?_
            obtain ⟨v9, hv9, hf⟩ := ob hf
            refine cSi (W.runS (As := [.int v8, .int v3]) (rest := [.int v4]) ⟨hx, hb, hml, hown, hts⟩ (m_X1_monthLength l D cI cJ cO ah v8 v3 v9 hv9) (va_cwS 2 hts gX1_isDate_X1_monthLength rfl rfl rfl (by decide +kernel) ⟨Nat.le_of_ble_eq_true rfl, Nat.le_of_ble_eq_true rfl⟩) ⟨pw_blind, fun U hU hW => ⟨rfl, pw_at hZ va_S.rf hP hK hU hW (Or.inr rfl) [] rfl⟩⟩ rfl rfl hl.1 rfl (lv_room (Nat.le_of_ble_eq_true rfl)) dX1_isDate_46 ⟨Nat.zero_le _, Nat.zero_le _⟩) ?_
            refine lv_icmp_gt (tgt := 56) hx hb dX1_isDate_49 (by decide) (fun c10 => ?_) (fun c10 => ?_)
            · have hf := it hf c10
              refine lv_iconst (v := 0) hx hb dX1_isDate_56 (by decide) ?_
              exact W.zret hx hb hr (zn (Or.inl rfl)) (fun t ht _ => ⟨_, rfl, ⟨Option.some.inj hf, (Or.inl rfl)⟩, ht⟩) (fun q hq => absurd hq List.not_mem_nil) dX1_isDate_57
            · have hf := ie hf c10
              refine lv_iconst (v := 1) hx hb dX1_isDate_52 (by decide) ?_
              refine lv_goto (tgt := 57) hx hb dX1_isDate_53 (by decide) ?_
              exact W.zret hx hb hr (zn (Or.inr rfl)) (fun t ht _ => ⟨_, rfl, ⟨Option.some.inj hf, (Or.inr rfl)⟩, ht⟩) (fun q hq => absurd hq List.not_mem_nil) dX1_isDate_57
    · have hf := ie hf c2
      refine lv_iconst (v := 0) hx hb dX1_isDate_12 (by decide) ?_
      exact W.zret hx hb hr (zn (Or.inl rfl)) (fun t ht _ => ⟨_, rfl, ⟨Option.some.inj hf, (Or.inl rfl)⟩, ht⟩) (fun q hq => absurd hq List.not_mem_nil) dX1_isDate_13
def f_X1_dayNumber (a0 : Int32) : Option Int32 :=
  bd ((a0 / 10000) - 2016 : Int32) fun x1 : Int32 => bd ((a0 / 100) - (a0 / 100) / 100 * 100 : Int32) fun x2 : Int32 => jn (fun (x4 : Int32) => jn (fun (x6 : Int32) => some ((((((365 * x1) + ((x1 + 3) / 4)) + x4) + x6) + (a0 - a0 / 100 * 100)) - 1)) fun K5 => jn (fun (_ : Unit) => K5 0) fun K7 => (if x2 ≤ 2 then K7 () else (if (x1 - x1 / 4 * 4) = 0 then K5 1 else K7 ()))) fun K3 => jn (fun (_ : Unit) => K3 0) fun K10 => (if x2 < 1 then K10 () else (if 12 < x2 then K10 () else bd (x2 - 1 : Int32) fun x13 : Int32 => gd (¬ (x13 < 0 ∨ 12 ≤ x13.toNatClampNeg)) (K3 (ahd x13.toNatClampNeg))))
set_option maxHeartbeats 4000000 in
set_option maxRecDepth 100000 in
theorem m_X1_dayNumber (l : Launch) (D : va_G) (cI cJ cO : ClassId) (ah : Nat)  (a0 : Int32) (r : Int32) (hf : f_X1_dayNumber a0 = some r) : Met l yX1_dayNumber wsX1_dayNumber ({ frames := 0, cells := 0, slots := 0, locals := 0 }) (va_Pc [.int a0] (pw D (ty3 cI cJ cO) (some ah) [eA cI ah])) (QSi r) 0 0 (fun _ => False) := by
  refine Met.ofW (cc := cX1_dayNumber) (maxL := 5) (ret := (some .int)) (by decide) rfl ?_
  intro p e s m args below meth c s₁ Bd hml hv
  obtain ⟨rfl, hZ, hP, hK⟩ := hv
  have hx := Bd.exec
  have hb := Bd.bytes
  have hr := Bd.returns
  have hts := atoms_spec (ws := wsX1_dayNumber) Bd.pre
  have hown : s.vm.findClass RX1 = some m.cls := findClass_of_methodNamed Bd.named
  have hlocks := Bd.notSynchronized
  have hl := lv_entry ([.int a0]) (n := 5) (Nat.le_of_ble_eq_true rfl)
  rw [lg_entry_eq]
  generalize (lg_sl ([.int a0]) ++ List.replicate (5 - (lg_sl ([.int a0])).length) Slot.unset).toArray = ls at hl ⊢
  have hl : lv_has ls 5 [(0, .int a0)] := hl
  unfold f_X1_dayNumber at hf
  refine lv_iload_n hx hb dX1_dayNumber_0 rfl (lv_at hl 0 rfl) ?_
  refine lv_sipush (v := 10000) hx hb dX1_dayNumber_1 (by decide) ?_
  refine lv_idiv hx hb dX1_dayNumber_4 (by decide) ?_
  refine lv_sipush (v := 2016) hx hb dX1_dayNumber_5 (by decide) ?_
  refine lv_isub hx hb dX1_dayNumber_8 ?_
  refine lv_topi (fun x1 ex1 => ?_)
  have hf := bd_s hf ex1
  refine lv_istore_n (lv' := [(1, .int x1), (0, .int a0)]) hx hb dX1_dayNumber_9 rfl hl (by decide) rfl (fun ls hl => ?_)
  refine lv_iload_n hx hb dX1_dayNumber_10 rfl (lv_at hl 1 rfl) ?_
  refine lv_bipush (v := 100) hx hb dX1_dayNumber_11 (by decide) ?_
  refine lv_idiv hx hb dX1_dayNumber_13 (by decide) ?_
  refine lv_bipush (v := 100) hx hb dX1_dayNumber_14 (by decide) ?_
  refine lv_irem hx hb dX1_dayNumber_16 (by decide) ?_
  refine lv_topi (fun x2 ex2 => ?_)
  have hf := bd_s hf ex2
  refine lv_istore_n (lv' := [(2, .int x2), (1, .int x1), (0, .int a0)]) hx hb dX1_dayNumber_17 rfl hl (by decide) rfl (fun ls hl => ?_)
  refine lv_iload_n hx hb dX1_dayNumber_18 rfl (lv_at hl 0 rfl) ?_
  refine lv_iconst (v := 1) hx hb dX1_dayNumber_19 (by decide) ?_
  obtain ⟨K3, hK3, hf⟩ := jn_s hf
  have JK3 : ∀ (x4 : Int32) (ls : Array Slot), lv_has ls 5 [(0, .int a0), (1, .int x1), (2, .int x2)] → K3 x4 = some r → W p l e (headSpec wsX1_dayNumber ({ frames := 0, cells := 0, slots := 0, locals := 0 })).room s m ([.int a0] : List Value).toArray below meth c s.heap [] 0 0 (MQ below (QSi r) ([.int a0] : List Value).toArray s 0 0 (fun _ => False)) (F0 m 42 ls [.int x4]) := by
    intro x4 ls hl hf
    rw [hK3] at hf
    refine lv_istore_n (lv' := [(3, .int x4), (0, .int a0), (1, .int x1), (2, .int x2)]) hx hb dX1_dayNumber_42 rfl hl (by decide) rfl (fun ls hl => ?_)
    refine lv_iload_n hx hb dX1_dayNumber_43 rfl (lv_at hl 3 rfl) ?_
    refine lv_iconst (v := 2) hx hb dX1_dayNumber_44 (by decide) ?_
    obtain ⟨K5, hK5, hf⟩ := jn_s hf
    have JK5 : ∀ (x6 : Int32) (ls : Array Slot), lv_has ls 5 [(0, .int a0), (1, .int x1), (3, .int x4)] → K5 x6 = some r → W p l e (headSpec wsX1_dayNumber ({ frames := 0, cells := 0, slots := 0, locals := 0 })).room s m ([.int a0] : List Value).toArray below meth c s.heap [] 0 0 (MQ below (QSi r) ([.int a0] : List Value).toArray s 0 0 (fun _ => False)) (F0 m 59 ls [.int x6]) := by
      intro x6 ls hl hf
      rw [hK5] at hf
      refine lv_istore (lv' := [(4, .int x6), (0, .int a0), (1, .int x1), (3, .int x4)]) hx hb dX1_dayNumber_59 hl (by decide) rfl (fun ls hl => ?_)
      refine lv_sipush (v := 365) hx hb dX1_dayNumber_61 (by decide) ?_
      refine lv_iload_n hx hb dX1_dayNumber_64 rfl (lv_at hl 2 rfl) ?_
      refine lv_imul hx hb dX1_dayNumber_65 ?_
      refine lv_iload_n hx hb dX1_dayNumber_66 rfl (lv_at hl 2 rfl) ?_
      refine lv_iconst (v := 3) hx hb dX1_dayNumber_67 (by decide) ?_
      refine lv_iadd hx hb dX1_dayNumber_68 ?_
      refine lv_iconst (v := 4) hx hb dX1_dayNumber_69 (by decide) ?_
      refine lv_idiv hx hb dX1_dayNumber_70 (by decide) ?_
      refine lv_iadd hx hb dX1_dayNumber_71 ?_
      refine lv_iload_n hx hb dX1_dayNumber_72 rfl (lv_at hl 3 rfl) ?_
      refine lv_iadd hx hb dX1_dayNumber_73 ?_
      refine lv_iload hx hb dX1_dayNumber_74 (lv_at hl 0 rfl) ?_
      refine lv_iadd hx hb dX1_dayNumber_76 ?_
      refine lv_iload_n hx hb dX1_dayNumber_77 rfl (lv_at hl 1 rfl) ?_
      refine lv_bipush (v := 100) hx hb dX1_dayNumber_78 (by decide) ?_
      refine lv_irem hx hb dX1_dayNumber_80 (by decide) ?_
      refine lv_iadd hx hb dX1_dayNumber_81 ?_
      refine lv_iconst (v := 1) hx hb dX1_dayNumber_82 (by decide) ?_
      refine lv_isub hx hb dX1_dayNumber_83 ?_
      exact W.iret hx hb hr (fun t ht _ => ⟨_, rfl, Option.some.inj hf, ht⟩) (fun q hq => absurd hq List.not_mem_nil) dX1_dayNumber_84
    obtain ⟨K7, hK7, hf⟩ := jn_s hf
    have JK7 : ∀  (ls : Array Slot), lv_has ls 5 [(0, .int a0), (1, .int x1), (3, .int x4)] → K7 () = some r → W p l e (headSpec wsX1_dayNumber ({ frames := 0, cells := 0, slots := 0, locals := 0 })).room s m ([.int a0] : List Value).toArray below meth c s.heap [] 0 0 (MQ below (QSi r) ([.int a0] : List Value).toArray s 0 0 (fun _ => False)) (F0 m 58 ls []) := by
      intro  ls hl hf
      rw [hK7] at hf
      refine lv_iconst (v := 0) hx hb dX1_dayNumber_58 (by decide) ?_
      exact JK5 0 ls (lv_sub hl [0, 1, 2] rfl) hf
    refine lv_icmp_le (tgt := 58) hx hb dX1_dayNumber_45 (by decide) (fun c8 => ?_) (fun c8 => ?_)
    · have hf := it hf c8
      exact JK7  ls (lv_sub hl [1, 2, 0] rfl) hf
    · have hf := ie hf c8
      refine lv_iload_n hx hb dX1_dayNumber_48 rfl (lv_at hl 2 rfl) ?_
      refine lv_iconst (v := 4) hx hb dX1_dayNumber_49 (by decide) ?_
      refine lv_irem hx hb dX1_dayNumber_50 (by decide) ?_
      refine lv_if_ne (tgt := 58) hx hb dX1_dayNumber_51 (by decide) (fun c9 => ?_) (fun c9 => ?_)
      · have hf := ie hf c9
        exact JK7  ls (lv_sub hl [1, 2, 0] rfl) hf
      · have hf := it hf c9
        refine lv_iconst (v := 1) hx hb dX1_dayNumber_54 (by decide) ?_
        refine lv_goto (tgt := 59) hx hb dX1_dayNumber_55 (by decide) ?_
        exact JK5 1 ls (lv_sub hl [1, 2, 0] rfl) hf
  obtain ⟨K10, hK10, hf⟩ := jn_s hf
  have JK10 : ∀  (ls : Array Slot), lv_has ls 5 [(0, .int a0), (1, .int x1), (2, .int x2)] → K10 () = some r → W p l e (headSpec wsX1_dayNumber ({ frames := 0, cells := 0, slots := 0, locals := 0 })).room s m ([.int a0] : List Value).toArray below meth c s.heap [] 0 0 (MQ below (QSi r) ([.int a0] : List Value).toArray s 0 0 (fun _ => False)) (F0 m 41 ls []) := by
    intro  ls hl hf
    rw [hK10] at hf
    refine lv_iconst (v := 0) hx hb dX1_dayNumber_41 (by decide) ?_
    exact JK3 0 ls (lv_sub hl [0, 1, 2] rfl) hf
  refine lv_icmp_lt (tgt := 41) hx hb dX1_dayNumber_20 (by decide) (fun c11 => ?_) (fun c11 => ?_)
  · have hf := it hf c11
    exact JK10  ls (lv_sub hl [2, 1, 0] rfl) hf
  · have hf := ie hf c11
    refine lv_iload_n hx hb dX1_dayNumber_23 rfl (lv_at hl 0 rfl) ?_
    refine va_gets hx hb (hZ ah rfl) va_S.rf hown (hts (.fieldLink RX1 27 "BondDesk$Dates" "AHEAD" "[I") (by decide +kernel)) (fun _ h9 => h9) dX1_dayNumber_24 ?_
    refine va_alen (v := 12) hx hb hK hP 0 0 rfl rfl rfl dX1_dayNumber_27 ?_
    refine lv_icmp_gt (tgt := 41) hx hb dX1_dayNumber_28 (by decide) (fun c12 => ?_) (fun c12 => ?_)
    · have hf := it hf c12
      exact JK10  ls (lv_sub hl [2, 1, 0] rfl) hf
    · have hf := ie hf c12
      refine va_gets hx hb (hZ ah rfl) va_S.rf hown (hts (.fieldLink RX1 27 "BondDesk$Dates" "AHEAD" "[I") (by decide +kernel)) (fun _ h9 => h9) dX1_dayNumber_31 ?_
      refine lv_iload_n hx hb dX1_dayNumber_34 rfl (lv_at hl 0 rfl) ?_
      refine lv_iconst (v := 1) hx hb dX1_dayNumber_35 (by decide) ?_
      refine lv_isub hx hb dX1_dayNumber_36 ?_
      refine lv_topi (fun x13 ex13 => ?_)
      have hf := bd_s hf ex13
      obtain ⟨c14, hf⟩ := gd_s hf
      refine va_iald hx hb hK hP 0 0 rfl rfl c14 dX1_dayNumber_37 ?_
      refine lv_goto (tgt := 42) hx hb dX1_dayNumber_38 (by decide) ?_
      exact JK3 (ahd x13.toNatClampNeg) ls (lv_sub hl [2, 1, 0] rfl) hf
def f_X1_dateOf_L31 (x2 : Int32) (K6 : Int32 → Int32 → Option Int32) : Nat → Int32 → Int32 → Option Int32
  | 0, _, _ => none
  | n9 + 1, x4, x5 => (if 12 ≤ x5 then K6 x4 x5 else (f_X1_monthLength x2 x5).bind fun v11 : Int32 => (if x4 < v11 then K6 x4 x5 else (f_X1_monthLength x2 x5).bind fun v13 : Int32 => bd (x4 - v13 : Int32) fun x14 : Int32 => bd (x5 + 1) fun x15 : Int32 => f_X1_dateOf_L31 x2 K6 n9 x14 x15))
def f_X1_dateOf (N : Nat) (a0 : Int32) : Option Int32 :=
  bd ((4 * a0) / 1461 : Int32) fun x1 : Int32 => bd (2016 + x1 : Int32) fun x2 : Int32 => bd ((a0 - (365 * x1)) - ((x1 + 3) / 4) : Int32) fun x3 : Int32 => f_X1_dateOf_L31 x2 (fun (x7 : Int32) (x8 : Int32) => some ((((10000 * x2) + (100 * x8)) + x7) + 1)) N x3 1
set_option maxHeartbeats 4000000 in
set_option maxRecDepth 100000 in
theorem m_X1_dateOf (l : Launch) (D : va_G) (cI cJ cO : ClassId) (ah : Nat)  (a0 : Int32) (N : Nat) (r : Int32) (hf : f_X1_dateOf N a0 = some r) : Met l yX1_dateOf wsX1_dateOf ({ frames := 1, cells := 0, slots := 0, locals := 21 }) (va_Pc [.int a0] (pw D (ty3 cI cJ cO) (some ah) [])) (QSi r) 0 0 (fun _ => False) := by
  refine Met.ofW (cc := cX1_dateOf) (maxL := 5) (ret := (some .int)) (by decide) rfl ?_
  intro p e s m args below meth c s₁ Bd hml hv
  obtain ⟨rfl, hZ, hP, hK⟩ := hv
  have hx := Bd.exec
  have hb := Bd.bytes
  have hr := Bd.returns
  have hts := atoms_spec (ws := wsX1_dateOf) Bd.pre
  have hown : s.vm.findClass RX1 = some m.cls := findClass_of_methodNamed Bd.named
  have hlocks := Bd.notSynchronized
  have hl := lv_entry ([.int a0]) (n := 5) (Nat.le_of_ble_eq_true rfl)
  rw [lg_entry_eq]
  generalize (lg_sl ([.int a0]) ++ List.replicate (5 - (lg_sl ([.int a0])).length) Slot.unset).toArray = ls at hl ⊢
  have hl : lv_has ls 5 [(0, .int a0)] := hl
  unfold f_X1_dateOf at hf
  refine lv_iconst (v := 4) hx hb dX1_dateOf_0 (by decide) ?_
  refine lv_iload_n hx hb dX1_dateOf_1 rfl (lv_at hl 0 rfl) ?_
  refine lv_imul hx hb dX1_dateOf_2 ?_
  refine lv_sipush (v := 1461) hx hb dX1_dateOf_3 (by decide) ?_
  refine lv_idiv hx hb dX1_dateOf_6 (by decide) ?_
  refine lv_topi (fun x1 ex1 => ?_)
  have hf := bd_s hf ex1
  refine lv_istore_n (lv' := [(1, .int x1), (0, .int a0)]) hx hb dX1_dateOf_7 rfl hl (by decide) rfl (fun ls hl => ?_)
  refine lv_sipush (v := 2016) hx hb dX1_dateOf_8 (by decide) ?_
  refine lv_iload_n hx hb dX1_dateOf_11 rfl (lv_at hl 0 rfl) ?_
  refine lv_iadd hx hb dX1_dateOf_12 ?_
  refine lv_topi (fun x2 ex2 => ?_)
  have hf := bd_s hf ex2
  refine lv_istore_n (lv' := [(2, .int x2), (1, .int x1), (0, .int a0)]) hx hb dX1_dateOf_13 rfl hl (by decide) rfl (fun ls hl => ?_)
  refine lv_iload_n hx hb dX1_dateOf_14 rfl (lv_at hl 2 rfl) ?_
  refine lv_sipush (v := 365) hx hb dX1_dateOf_15 (by decide) ?_
  refine lv_iload_n hx hb dX1_dateOf_18 rfl (lv_at hl 1 rfl) ?_
  refine lv_imul hx hb dX1_dateOf_19 ?_
  refine lv_isub hx hb dX1_dateOf_20 ?_
  refine lv_iload_n hx hb dX1_dateOf_21 rfl (lv_at hl 1 rfl) ?_
  refine lv_iconst (v := 3) hx hb dX1_dateOf_22 (by decide) ?_
  refine lv_iadd hx hb dX1_dateOf_23 ?_
  refine lv_iconst (v := 4) hx hb dX1_dateOf_24 (by decide) ?_
  refine lv_idiv hx hb dX1_dateOf_25 (by decide) ?_
  refine lv_isub hx hb dX1_dateOf_26 ?_
  refine lv_topi (fun x3 ex3 => ?_)
  have hf := bd_s hf ex3
  refine lv_istore_n (lv' := [(3, .int x3), (2, .int x2), (1, .int x1), (0, .int a0)]) hx hb dX1_dateOf_27 rfl hl (by decide) rfl (fun ls hl => ?_)
  refine lv_iconst (v := 1) hx hb dX1_dateOf_28 (by decide) ?_
  refine lv_istore (lv' := [(4, .int 1), (3, .int x3), (2, .int x2), (1, .int x1), (0, .int a0)]) hx hb dX1_dateOf_29 hl (by decide) rfl (fun ls hl => ?_)
  obtain ⟨K6, hK6, hf⟩ := kx_s (P := fun k => f_X1_dateOf_L31 x2 k N x3 1 = some r) hf
  have JK6 : ∀ (x7 : Int32) (x8 : Int32) (ls : Array Slot), lv_has ls 5 [(2, .int x2), (3, .int x7), (4, .int x8)] → K6 x7 x8 = some r → W p l e (headSpec wsX1_dateOf ({ frames := 1, cells := 0, slots := 0, locals := 21 })).room s m ([.int a0] : List Value).toArray below meth c s.heap [] 0 0 (MQ below (QSi r) ([.int a0] : List Value).toArray s 0 0 (fun _ => False)) (F0 m 63 ls []) := by
    intro x7 x8 ls hl hf
    rw [hK6] at hf
    refine lv_sipush (v := 10000) hx hb dX1_dateOf_63 (by decide) ?_
    refine lv_iload_n hx hb dX1_dateOf_66 rfl (lv_at hl 0 rfl) ?_
    refine lv_imul hx hb dX1_dateOf_67 ?_
    refine lv_bipush (v := 100) hx hb dX1_dateOf_68 (by decide) ?_
    refine lv_iload hx hb dX1_dateOf_70 (lv_at hl 2 rfl) ?_
    refine lv_imul hx hb dX1_dateOf_72 ?_
    refine lv_iadd hx hb dX1_dateOf_73 ?_
    refine lv_iload_n hx hb dX1_dateOf_74 rfl (lv_at hl 1 rfl) ?_
    refine lv_iadd hx hb dX1_dateOf_75 ?_
    refine lv_iconst (v := 1) hx hb dX1_dateOf_76 (by decide) ?_
    refine lv_iadd hx hb dX1_dateOf_77 ?_
    exact W.iret hx hb hr (fun t ht _ => ⟨_, rfl, Option.some.inj hf, ht⟩) (fun q hq => absurd hq List.not_mem_nil) dX1_dateOf_78
  have LP31 : ∀ (n9 : Nat) (x4 : Int32) (x5 : Int32) (ls : Array Slot), lv_has ls 5 [(2, .int x2), (3, .int x4), (4, .int x5)] → f_X1_dateOf_L31 x2 K6 n9 x4 x5 = some r → W p l e (headSpec wsX1_dateOf ({ frames := 1, cells := 0, slots := 0, locals := 21 })).room s m ([.int a0] : List Value).toArray below meth c s.heap [] 0 0 (MQ below (QSi r) ([.int a0] : List Value).toArray s 0 0 (fun _ => False)) (F0 m 31 ls []) := by
    intro n9
    induction n9 with
    | zero => intro x4 x5 ls hl hf; exact (no_s hf).elim
    | succ n9 ih9 =>
      intro x4 x5 ls hl hf
      rw [f_X1_dateOf_L31] at hf
      refine lv_iload hx hb dX1_dateOf_31 (lv_at hl 2 rfl) ?_
      refine lv_bipush (v := 12) hx hb dX1_dateOf_33 (by decide) ?_
      refine lv_icmp_ge (tgt := 63) hx hb dX1_dateOf_35 (by decide) (fun c10 => ?_) (fun c10 => ?_)
      · have hf := it hf c10
        exact JK6 x4 x5 ls (lv_sub hl [0, 1, 2] rfl) hf
      · have hf := ie hf c10
        refine lv_iload_n hx hb dX1_dateOf_38 rfl (lv_at hl 1 rfl) ?_
        refine lv_iload_n hx hb dX1_dateOf_39 rfl (lv_at hl 0 rfl) ?_
        refine lv_iload hx hb dX1_dateOf_40 (lv_at hl 2 rfl) ?_
        obtain ⟨v11, hv11, hf⟩ := ob hf
        refine cSi (W.runS (As := [.int x2, .int x5]) (rest := [.int x4]) ⟨hx, hb, hml, hown, hts⟩ (m_X1_monthLength l D cI cJ cO ah x2 x5 v11 hv11) (va_cwS 2 hts gX1_dateOf_X1_monthLength rfl rfl rfl (by decide +kernel) ⟨Nat.le_of_ble_eq_true rfl, Nat.le_of_ble_eq_true rfl⟩) ⟨pw_blind, fun U hU hW => ⟨rfl, pw_at hZ va_S.rf hP hK hU hW (Or.inr rfl) [] rfl⟩⟩ rfl rfl hl.1 rfl (lv_room (Nat.le_of_ble_eq_true rfl)) dX1_dateOf_42 ⟨Nat.zero_le _, Nat.zero_le _⟩) ?_
        refine lv_icmp_lt (tgt := 63) hx hb dX1_dateOf_45 (by decide) (fun c12 => ?_) (fun c12 => ?_)
        · have hf := it hf c12
          exact JK6 x4 x5 ls (lv_sub hl [0, 1, 2] rfl) hf
        · have hf := ie hf c12
          refine lv_iload_n hx hb dX1_dateOf_48 rfl (lv_at hl 1 rfl) ?_
          refine lv_iload_n hx hb dX1_dateOf_49 rfl (lv_at hl 0 rfl) ?_
          refine lv_iload hx hb dX1_dateOf_50 (lv_at hl 2 rfl) ?_
          obtain ⟨v13, hv13, hf⟩ := ob hf
          refine cSi (W.runS (As := [.int x2, .int x5]) (rest := [.int x4]) ⟨hx, hb, hml, hown, hts⟩ (m_X1_monthLength l D cI cJ cO ah x2 x5 v13 hv13) (va_cwS 2 hts gX1_dateOf_X1_monthLength rfl rfl rfl (by decide +kernel) ⟨Nat.le_of_ble_eq_true rfl, Nat.le_of_ble_eq_true rfl⟩) ⟨pw_blind, fun U hU hW => ⟨rfl, pw_at hZ va_S.rf hP hK hU hW (Or.inr rfl) [] rfl⟩⟩ rfl rfl hl.1 rfl (lv_room (Nat.le_of_ble_eq_true rfl)) dX1_dateOf_52 ⟨Nat.zero_le _, Nat.zero_le _⟩) ?_
          refine lv_isub hx hb dX1_dateOf_55 ?_
          refine lv_topi (fun x14 ex14 => ?_)
          have hf := bd_s hf ex14
          refine lv_istore_n (lv' := [(3, .int x14), (2, .int x2), (4, .int x5)]) hx hb dX1_dateOf_56 rfl hl (by decide) rfl (fun ls hl => ?_)
          obtain ⟨x15, ex15⟩ : ∃ y : Int32, y = x5 + 1 := ⟨_, rfl⟩
          have hf := bd_s hf ex15
          refine lv_iinc (v := x15) (lv' := [(4, .int x15), (3, .int x14), (2, .int x2)]) hx hb dX1_dateOf_57 hl (k := 2) rfl (by rw [ex15]; rfl) (by decide) rfl (fun ls hl => ?_)
          refine lv_goto (tgt := 31) hx hb dX1_dateOf_60 (by decide) ?_
          exact ih9 x14 x15 ls (lv_sub hl [2, 1, 0] rfl) hf
  exact LP31 N x3 1 ls (lv_sub hl [2, 1, 0] rfl) hf
def f_X1_dayOfWeek (a0 : Int32) : Option Int32 :=
  some ((a0 + 4) - (a0 + 4) / 7 * 7)
set_option maxHeartbeats 4000000 in
set_option maxRecDepth 100000 in
theorem m_X1_dayOfWeek (l : Launch) (D : va_G) (cI cJ cO : ClassId) (ah : Nat)  (a0 : Int32) (r : Int32) (hf : f_X1_dayOfWeek a0 = some r) : Met l yX1_dayOfWeek wsX1_dayOfWeek ({ frames := 0, cells := 0, slots := 0, locals := 0 }) (va_Pc [.int a0] (pw D (ty3 cI cJ cO) (some ah) [])) (QSi r) 0 0 (fun _ => False) := by
  refine Met.ofW (cc := cX1_dayOfWeek) (maxL := 1) (ret := (some .int)) (by decide) rfl ?_
  intro p e s m args below meth c s₁ Bd hml hv
  obtain ⟨rfl, hZ, hP, hK⟩ := hv
  have hx := Bd.exec
  have hb := Bd.bytes
  have hr := Bd.returns
  have hts := atoms_spec (ws := wsX1_dayOfWeek) Bd.pre
  have hown : s.vm.findClass RX1 = some m.cls := findClass_of_methodNamed Bd.named
  have hlocks := Bd.notSynchronized
  have hl := lv_entry ([.int a0]) (n := 1) (Nat.le_of_ble_eq_true rfl)
  rw [lg_entry_eq]
  generalize (lg_sl ([.int a0]) ++ List.replicate (1 - (lg_sl ([.int a0])).length) Slot.unset).toArray = ls at hl ⊢
  have hl : lv_has ls 1 [(0, .int a0)] := hl
  unfold f_X1_dayOfWeek at hf
  refine lv_iload_n hx hb dX1_dayOfWeek_0 rfl (lv_at hl 0 rfl) ?_
  refine lv_iconst (v := 4) hx hb dX1_dayOfWeek_1 (by decide) ?_
  refine lv_iadd hx hb dX1_dayOfWeek_2 ?_
  refine lv_bipush (v := 7) hx hb dX1_dayOfWeek_3 (by decide) ?_
  refine lv_irem hx hb dX1_dayOfWeek_5 (by decide) ?_
  exact W.iret hx hb hr (fun t ht _ => ⟨_, rfl, Option.some.inj hf, ht⟩) (fun q hq => absurd hq List.not_mem_nil) dX1_dayOfWeek_6
def f_X1_daysBetween (a0 : Int32) (a1 : Int32) : Option Int32 :=
  (f_X1_dayNumber a1).bind fun v1 : Int32 => (f_X1_dayNumber a0).bind fun v2 : Int32 => some (v1 - v2)
set_option maxHeartbeats 4000000 in
set_option maxRecDepth 100000 in
theorem m_X1_daysBetween (l : Launch) (D : va_G) (cI cJ cO : ClassId) (ah : Nat)  (a0 : Int32) (a1 : Int32) (r : Int32) (hf : f_X1_daysBetween a0 a1 = some r) : Met l yX1_daysBetween wsX1_daysBetween ({ frames := 1, cells := 0, slots := 0, locals := 24 }) (va_Pc [.int a0, .int a1] (pw D (ty3 cI cJ cO) (some ah) [eA cI ah])) (QSi r) 0 0 (fun _ => False) := by
  refine Met.ofW (cc := cX1_daysBetween) (maxL := 2) (ret := (some .int)) (by decide) rfl ?_
  intro p e s m args below meth c s₁ Bd hml hv
  obtain ⟨rfl, hZ, hP, hK⟩ := hv
  have hx := Bd.exec
  have hb := Bd.bytes
  have hr := Bd.returns
  have hts := atoms_spec (ws := wsX1_daysBetween) Bd.pre
  have hown : s.vm.findClass RX1 = some m.cls := findClass_of_methodNamed Bd.named
  have hlocks := Bd.notSynchronized
  have hl := lv_entry ([.int a0, .int a1]) (n := 2) (Nat.le_of_ble_eq_true rfl)
  rw [lg_entry_eq]
  generalize (lg_sl ([.int a0, .int a1]) ++ List.replicate (2 - (lg_sl ([.int a0, .int a1])).length) Slot.unset).toArray = ls at hl ⊢
  have hl : lv_has ls 2 [(0, .int a0), (1, .int a1)] := hl
  unfold f_X1_daysBetween at hf
  refine lv_iload_n hx hb dX1_daysBetween_0 rfl (lv_at hl 1 rfl) ?_
  obtain ⟨v1, hv1, hf⟩ := ob hf
  refine cSi (W.runS (As := [.int a1]) (rest := []) ⟨hx, hb, hml, hown, hts⟩ (m_X1_dayNumber l D cI cJ cO ah a1 v1 hv1) (va_cwS 1 hts gX1_daysBetween_X1_dayNumber rfl rfl rfl (by decide +kernel) ⟨Nat.le_of_ble_eq_true rfl, Nat.le_of_ble_eq_true rfl⟩) ⟨pw_blind, fun U hU hW => ⟨rfl, pw_at hZ va_S.rf hP hK hU hW (Or.inr rfl) [0] rfl⟩⟩ rfl rfl hl.1 rfl (lv_room (Nat.le_of_ble_eq_true rfl)) dX1_daysBetween_1 ⟨Nat.zero_le _, Nat.zero_le _⟩) ?_
  refine lv_iload_n hx hb dX1_daysBetween_4 rfl (lv_at hl 0 rfl) ?_
  obtain ⟨v2, hv2, hf⟩ := ob hf
  refine cSi (W.runS (As := [.int a0]) (rest := [.int v1]) ⟨hx, hb, hml, hown, hts⟩ (m_X1_dayNumber l D cI cJ cO ah a0 v2 hv2) (va_cwS 1 hts gX1_daysBetween_X1_dayNumber rfl rfl rfl (by decide +kernel) ⟨Nat.le_of_ble_eq_true rfl, Nat.le_of_ble_eq_true rfl⟩) ⟨pw_blind, fun U hU hW => ⟨rfl, pw_at hZ va_S.rf hP hK hU hW (Or.inr rfl) [0] rfl⟩⟩ rfl rfl hl.1 rfl (lv_room (Nat.le_of_ble_eq_true rfl)) dX1_daysBetween_5 ⟨Nat.zero_le _, Nat.zero_le _⟩) ?_
  refine lv_isub hx hb dX1_daysBetween_8 ?_
  exact W.iret hx hb hr (fun t ht _ => ⟨_, rfl, Option.some.inj hf, ht⟩) (fun q hq => absurd hq List.not_mem_nil) dX1_daysBetween_9
def f_X1_daysOf30 (a0 : Int32) (a1 : Int32) : Option Int32 :=
  (f_X1_dayOf a0).bind fun v1 : Int32 => bd (if 30 < v1 then 30 else v1 : Int32) fun x2 : Int32 => jn (fun (x4 : Int32) => (f_X1_yearOf a1).bind fun v5 : Int32 => (f_X1_yearOf a0).bind fun v6 : Int32 => (f_X1_monthOf a1).bind fun v7 : Int32 => (f_X1_monthOf a0).bind fun v8 : Int32 => some ((((360 * (v5 - v6)) + (30 * (v7 - v8))) + x4) - x2)) fun K3 => (if x2 = 30 then (f_X1_dayOf a1).bind fun v11 : Int32 => bd (if 30 < v11 then 30 else v11 : Int32) fun x12 : Int32 => K3 x12 else (f_X1_dayOf a1).bind fun v10 : Int32 => K3 v10)
set_option maxHeartbeats 4000000 in
set_option maxRecDepth 100000 in
theorem m_X1_daysOf30 (l : Launch) (D : va_G) (cI cJ cO : ClassId) (ah : Nat)  (a0 : Int32) (a1 : Int32) (r : Int32) (hf : f_X1_daysOf30 a0 a1 = some r) : Met l yX1_daysOf30 wsX1_daysOf30 ({ frames := 1, cells := 0, slots := 0, locals := 20 }) (va_Pc [.int a0, .int a1] (pw D (ty3 cI cJ cO) (some ah) [])) (QSi r) 0 0 (fun _ => False) := by
  refine Met.ofW (cc := cX1_daysOf30) (maxL := 4) (ret := (some .int)) (by decide) rfl ?_
  intro p e s m args below meth c s₁ Bd hml hv
  obtain ⟨rfl, hZ, hP, hK⟩ := hv
  have hx := Bd.exec
  have hb := Bd.bytes
  have hr := Bd.returns
  have hts := atoms_spec (ws := wsX1_daysOf30) Bd.pre
  have hown : s.vm.findClass RX1 = some m.cls := findClass_of_methodNamed Bd.named
  have hlocks := Bd.notSynchronized
  have hl := lv_entry ([.int a0, .int a1]) (n := 4) (Nat.le_of_ble_eq_true rfl)
  rw [lg_entry_eq]
  generalize (lg_sl ([.int a0, .int a1]) ++ List.replicate (4 - (lg_sl ([.int a0, .int a1])).length) Slot.unset).toArray = ls at hl ⊢
  have hl : lv_has ls 4 [(0, .int a0), (1, .int a1)] := hl
  unfold f_X1_daysOf30 at hf
  refine lv_iload_n hx hb dX1_daysOf30_0 rfl (lv_at hl 0 rfl) ?_
  obtain ⟨v1, hv1, hf⟩ := ob hf
  refine cSi (W.runS (As := [.int a0]) (rest := []) ⟨hx, hb, hml, hown, hts⟩ (m_X1_dayOf l D cI cJ cO ah a0 v1 hv1) (va_cwS 1 hts gX1_daysOf30_X1_dayOf rfl rfl rfl (by decide +kernel) ⟨Nat.le_of_ble_eq_true rfl, Nat.le_of_ble_eq_true rfl⟩) ⟨pw_blind, fun U hU hW => ⟨rfl, pw_at hZ va_S.rf hP hK hU hW (Or.inr rfl) [] rfl⟩⟩ rfl rfl hl.1 rfl (lv_room (Nat.le_of_ble_eq_true rfl)) dX1_daysOf30_1 ⟨Nat.zero_le _, Nat.zero_le _⟩) ?_
  refine lv_bipush (v := 30) hx hb dX1_daysOf30_4 (by decide) ?_
  refine va_mmin hx hb (hml.trans hl.1.symm) hown (hts (.methodLink RX1 34 Lib.Math.min.name) (by decide +kernel)) (hts (.static Lib.Math.min.name) (by decide +kernel)) (hts (.initialized "java/lang/Math") (by decide +kernel)) (hts (.code Lib.Math.min.name Lib.Math.min.code 2 (some .int)) (by decide +kernel)) (Nat.le_of_ble_eq_true rfl) (Nat.le_of_ble_eq_true rfl) (Nat.zero_le _) (Nat.zero_le _) dX1_daysOf30_6 ?_
  refine lv_topi (fun x2 ex2 => ?_)
  have hf := bd_s hf ex2
  refine lv_istore_n (lv' := [(2, .int x2), (0, .int a0), (1, .int a1)]) hx hb dX1_daysOf30_9 rfl hl (by decide) rfl (fun ls hl => ?_)
  refine lv_iload_n hx hb dX1_daysOf30_10 rfl (lv_at hl 0 rfl) ?_
  refine lv_bipush (v := 30) hx hb dX1_daysOf30_11 (by decide) ?_
  obtain ⟨K3, hK3, hf⟩ := jn_s hf
  have JK3 : ∀ (x4 : Int32) (ls : Array Slot), lv_has ls 4 [(0, .int a0), (1, .int a1), (2, .int x2)] → K3 x4 = some r → W p l e (headSpec wsX1_daysOf30 ({ frames := 1, cells := 0, slots := 0, locals := 20 })).room s m ([.int a0, .int a1] : List Value).toArray below meth c s.heap [] 0 0 (MQ below (QSi r) ([.int a0, .int a1] : List Value).toArray s 0 0 (fun _ => False)) (F0 m 32 ls [.int x4]) := by
    intro x4 ls hl hf
    rw [hK3] at hf
    refine lv_istore_n (lv' := [(3, .int x4), (0, .int a0), (1, .int a1), (2, .int x2)]) hx hb dX1_daysOf30_32 rfl hl (by decide) rfl (fun ls hl => ?_)
    refine lv_sipush (v := 360) hx hb dX1_daysOf30_33 (by decide) ?_
    refine lv_iload_n hx hb dX1_daysOf30_36 rfl (lv_at hl 2 rfl) ?_
    obtain ⟨v5, hv5, hf⟩ := ob hf
    refine cSi (W.runS (As := [.int a1]) (rest := [.int 360]) ⟨hx, hb, hml, hown, hts⟩ (m_X1_yearOf l D cI cJ cO ah a1 v5 hv5) (va_cwS 1 hts gX1_daysOf30_X1_yearOf rfl rfl rfl (by decide +kernel) ⟨Nat.le_of_ble_eq_true rfl, Nat.le_of_ble_eq_true rfl⟩) ⟨pw_blind, fun U hU hW => ⟨rfl, pw_at hZ va_S.rf hP hK hU hW (Or.inr rfl) [] rfl⟩⟩ rfl rfl hl.1 rfl (lv_room (Nat.le_of_ble_eq_true rfl)) dX1_daysOf30_37 ⟨Nat.zero_le _, Nat.zero_le _⟩) ?_
    refine lv_iload_n hx hb dX1_daysOf30_40 rfl (lv_at hl 1 rfl) ?_
    obtain ⟨v6, hv6, hf⟩ := ob hf
    refine cSi (W.runS (As := [.int a0]) (rest := [.int v5, .int 360]) ⟨hx, hb, hml, hown, hts⟩ (m_X1_yearOf l D cI cJ cO ah a0 v6 hv6) (va_cwS 1 hts gX1_daysOf30_X1_yearOf rfl rfl rfl (by decide +kernel) ⟨Nat.le_of_ble_eq_true rfl, Nat.le_of_ble_eq_true rfl⟩) ⟨pw_blind, fun U hU hW => ⟨rfl, pw_at hZ va_S.rf hP hK hU hW (Or.inr rfl) [] rfl⟩⟩ rfl rfl hl.1 rfl (lv_room (Nat.le_of_ble_eq_true rfl)) dX1_daysOf30_41 ⟨Nat.zero_le _, Nat.zero_le _⟩) ?_
    refine lv_isub hx hb dX1_daysOf30_44 ?_
    refine lv_imul hx hb dX1_daysOf30_45 ?_
    refine lv_bipush (v := 30) hx hb dX1_daysOf30_46 (by decide) ?_
    refine lv_iload_n hx hb dX1_daysOf30_48 rfl (lv_at hl 2 rfl) ?_
    obtain ⟨v7, hv7, hf⟩ := ob hf
    refine cSi (W.runS (As := [.int a1]) (rest := [.int 30, .int (360 * (v5 - v6))]) ⟨hx, hb, hml, hown, hts⟩ (m_X1_monthOf l D cI cJ cO ah a1 v7 hv7) (va_cwS 1 hts gX1_daysOf30_X1_monthOf rfl rfl rfl (by decide +kernel) ⟨Nat.le_of_ble_eq_true rfl, Nat.le_of_ble_eq_true rfl⟩) ⟨pw_blind, fun U hU hW => ⟨rfl, pw_at hZ va_S.rf hP hK hU hW (Or.inr rfl) [] rfl⟩⟩ rfl rfl hl.1 rfl (lv_room (Nat.le_of_ble_eq_true rfl)) dX1_daysOf30_49 ⟨Nat.zero_le _, Nat.zero_le _⟩) ?_
    refine lv_iload_n hx hb dX1_daysOf30_52 rfl (lv_at hl 1 rfl) ?_
    obtain ⟨v8, hv8, hf⟩ := ob hf
    refine cSi (W.runS (As := [.int a0]) (rest := [.int v7, .int 30, .int (360 * (v5 - v6))]) ⟨hx, hb, hml, hown, hts⟩ (m_X1_monthOf l D cI cJ cO ah a0 v8 hv8) (va_cwS 1 hts gX1_daysOf30_X1_monthOf rfl rfl rfl (by decide +kernel) ⟨Nat.le_of_ble_eq_true rfl, Nat.le_of_ble_eq_true rfl⟩) ⟨pw_blind, fun U hU hW => ⟨rfl, pw_at hZ va_S.rf hP hK hU hW (Or.inr rfl) [] rfl⟩⟩ rfl rfl hl.1 rfl (lv_room (Nat.le_of_ble_eq_true rfl)) dX1_daysOf30_53 ⟨Nat.zero_le _, Nat.zero_le _⟩) ?_
    refine lv_isub hx hb dX1_daysOf30_56 ?_
    refine lv_imul hx hb dX1_daysOf30_57 ?_
    refine lv_iadd hx hb dX1_daysOf30_58 ?_
    refine lv_iload_n hx hb dX1_daysOf30_59 rfl (lv_at hl 0 rfl) ?_
    refine lv_iadd hx hb dX1_daysOf30_60 ?_
    refine lv_iload_n hx hb dX1_daysOf30_61 rfl (lv_at hl 3 rfl) ?_
    refine lv_isub hx hb dX1_daysOf30_62 ?_
    exact W.iret hx hb hr (fun t ht _ => ⟨_, rfl, Option.some.inj hf, ht⟩) (fun q hq => absurd hq List.not_mem_nil) dX1_daysOf30_63
  refine lv_icmp_ne (tgt := 28) hx hb dX1_daysOf30_13 (by decide) (fun c9 => ?_) (fun c9 => ?_)
  · have hf := ie hf c9
    refine lv_iload_n hx hb dX1_daysOf30_28 rfl (lv_at hl 2 rfl) ?_
    obtain ⟨v10, hv10, hf⟩ := ob hf
    refine cSi (W.runS (As := [.int a1]) (rest := []) ⟨hx, hb, hml, hown, hts⟩ (m_X1_dayOf l D cI cJ cO ah a1 v10 hv10) (va_cwS 1 hts gX1_daysOf30_X1_dayOf rfl rfl rfl (by decide +kernel) ⟨Nat.le_of_ble_eq_true rfl, Nat.le_of_ble_eq_true rfl⟩) ⟨pw_blind, fun U hU hW => ⟨rfl, pw_at hZ va_S.rf hP hK hU hW (Or.inr rfl) [] rfl⟩⟩ rfl rfl hl.1 rfl (lv_room (Nat.le_of_ble_eq_true rfl)) dX1_daysOf30_29 ⟨Nat.zero_le _, Nat.zero_le _⟩) ?_
    exact JK3 v10 ls (lv_sub hl [1, 2, 0] rfl) hf
  · have hf := it hf c9
    refine lv_iload_n hx hb dX1_daysOf30_16 rfl (lv_at hl 2 rfl) ?_
    obtain ⟨v11, hv11, hf⟩ := ob hf
    refine cSi (W.runS (As := [.int a1]) (rest := []) ⟨hx, hb, hml, hown, hts⟩ (m_X1_dayOf l D cI cJ cO ah a1 v11 hv11) (va_cwS 1 hts gX1_daysOf30_X1_dayOf rfl rfl rfl (by decide +kernel) ⟨Nat.le_of_ble_eq_true rfl, Nat.le_of_ble_eq_true rfl⟩) ⟨pw_blind, fun U hU hW => ⟨rfl, pw_at hZ va_S.rf hP hK hU hW (Or.inr rfl) [] rfl⟩⟩ rfl rfl hl.1 rfl (lv_room (Nat.le_of_ble_eq_true rfl)) dX1_daysOf30_17 ⟨Nat.zero_le _, Nat.zero_le _⟩) ?_
    refine lv_bipush (v := 30) hx hb dX1_daysOf30_20 (by decide) ?_
    refine va_mmin hx hb (hml.trans hl.1.symm) hown (hts (.methodLink RX1 34 Lib.Math.min.name) (by decide +kernel)) (hts (.static Lib.Math.min.name) (by decide +kernel)) (hts (.initialized "java/lang/Math") (by decide +kernel)) (hts (.code Lib.Math.min.name Lib.Math.min.code 2 (some .int)) (by decide +kernel)) (Nat.le_of_ble_eq_true rfl) (Nat.le_of_ble_eq_true rfl) (Nat.zero_le _) (Nat.zero_le _) dX1_daysOf30_22 ?_
    refine lv_topi (fun x12 ex12 => ?_)
    have hf := bd_s hf ex12
    refine lv_goto (tgt := 32) hx hb dX1_daysOf30_25 (by decide) ?_
    exact JK3 x12 ls (lv_sub hl [1, 2, 0] rfl) hf
def f_X1_monthsBack (a0 : Int32) (a1 : Int32) : Option Int32 :=
  (f_X1_yearOf a0).bind fun v1 : Int32 => (f_X1_monthOf a0).bind fun v2 : Int32 => bd ((((12 * v1) + v2) - 1) - a1 : Int32) fun x3 : Int32 => bd (x3 / 12 : Int32) fun x4 : Int32 => bd ((x3 - x3 / 12 * 12) + 1 : Int32) fun x5 : Int32 => (f_X1_monthLength x4 x5).bind fun v6 : Int32 => (f_X1_dayOf a0).bind fun v7 : Int32 => (f_X1_yearOf a0).bind fun v8 : Int32 => (f_X1_monthOf a0).bind fun v9 : Int32 => (f_X1_monthLength v8 v9).bind fun v10 : Int32 => jn (fun (x12 : Int32) => jn (fun (x14 : Int32) => some (((10000 * x4) + (100 * x5)) + x14)) fun K13 => (if x12 = 0 then (f_X1_dayOf a0).bind fun v16 : Int32 => bd (if v6 < v16 then v6 else v16 : Int32) fun x17 : Int32 => K13 x17 else K13 v6)) fun K11 => (if v7 = v10 then K11 1 else K11 0)
set_option maxHeartbeats 4000000 in
set_option maxRecDepth 100000 in
theorem m_X1_monthsBack (l : Launch) (D : va_G) (cI cJ cO : ClassId) (ah : Nat)  (a0 : Int32) (a1 : Int32) (r : Int32) (hf : f_X1_monthsBack a0 a1 = some r) : Met l yX1_monthsBack wsX1_monthsBack ({ frames := 1, cells := 0, slots := 0, locals := 21 }) (va_Pc [.int a0, .int a1] (pw D (ty3 cI cJ cO) (some ah) [])) (QSi r) 0 0 (fun _ => False) := by
  refine Met.ofW (cc := cX1_monthsBack) (maxL := 8) (ret := (some .int)) (by decide) rfl ?_
  intro p e s m args below meth c s₁ Bd hml hv
  obtain ⟨rfl, hZ, hP, hK⟩ := hv
  have hx := Bd.exec
  have hb := Bd.bytes
  have hr := Bd.returns
  have hts := atoms_spec (ws := wsX1_monthsBack) Bd.pre
  have hown : s.vm.findClass RX1 = some m.cls := findClass_of_methodNamed Bd.named
  have hlocks := Bd.notSynchronized
  have hl := lv_entry ([.int a0, .int a1]) (n := 8) (Nat.le_of_ble_eq_true rfl)
  rw [lg_entry_eq]
  generalize (lg_sl ([.int a0, .int a1]) ++ List.replicate (8 - (lg_sl ([.int a0, .int a1])).length) Slot.unset).toArray = ls at hl ⊢
  have hl : lv_has ls 8 [(0, .int a0), (1, .int a1)] := hl
  unfold f_X1_monthsBack at hf
  refine lv_bipush (v := 12) hx hb dX1_monthsBack_0 (by decide) ?_
  refine lv_iload_n hx hb dX1_monthsBack_2 rfl (lv_at hl 0 rfl) ?_
  obtain ⟨v1, hv1, hf⟩ := ob hf
  refine cSi (W.runS (As := [.int a0]) (rest := [.int 12]) ⟨hx, hb, hml, hown, hts⟩ (m_X1_yearOf l D cI cJ cO ah a0 v1 hv1) (va_cwS 1 hts gX1_monthsBack_X1_yearOf rfl rfl rfl (by decide +kernel) ⟨Nat.le_of_ble_eq_true rfl, Nat.le_of_ble_eq_true rfl⟩) ⟨pw_blind, fun U hU hW => ⟨rfl, pw_at hZ va_S.rf hP hK hU hW (Or.inr rfl) [] rfl⟩⟩ rfl rfl hl.1 rfl (lv_room (Nat.le_of_ble_eq_true rfl)) dX1_monthsBack_3 ⟨Nat.zero_le _, Nat.zero_le _⟩) ?_
  refine lv_imul hx hb dX1_monthsBack_6 ?_
  refine lv_iload_n hx hb dX1_monthsBack_7 rfl (lv_at hl 0 rfl) ?_
  obtain ⟨v2, hv2, hf⟩ := ob hf
  refine cSi (W.runS (As := [.int a0]) (rest := [.int (12 * v1)]) ⟨hx, hb, hml, hown, hts⟩ (m_X1_monthOf l D cI cJ cO ah a0 v2 hv2) (va_cwS 1 hts gX1_monthsBack_X1_monthOf rfl rfl rfl (by decide +kernel) ⟨Nat.le_of_ble_eq_true rfl, Nat.le_of_ble_eq_true rfl⟩) ⟨pw_blind, fun U hU hW => ⟨rfl, pw_at hZ va_S.rf hP hK hU hW (Or.inr rfl) [] rfl⟩⟩ rfl rfl hl.1 rfl (lv_room (Nat.le_of_ble_eq_true rfl)) dX1_monthsBack_8 ⟨Nat.zero_le _, Nat.zero_le _⟩) ?_
  refine lv_iadd hx hb dX1_monthsBack_11 ?_
  refine lv_iconst (v := 1) hx hb dX1_monthsBack_12 (by decide) ?_
  refine lv_isub hx hb dX1_monthsBack_13 ?_
  refine lv_iload_n hx hb dX1_monthsBack_14 rfl (lv_at hl 1 rfl) ?_
  refine lv_isub hx hb dX1_monthsBack_15 ?_
  refine lv_topi (fun x3 ex3 => ?_)
  have hf := bd_s hf ex3
  refine lv_istore_n (lv' := [(2, .int x3), (0, .int a0), (1, .int a1)]) hx hb dX1_monthsBack_16 rfl hl (by decide) rfl (fun ls hl => ?_)
  refine lv_iload_n hx hb dX1_monthsBack_17 rfl (lv_at hl 0 rfl) ?_
  refine lv_bipush (v := 12) hx hb dX1_monthsBack_18 (by decide) ?_
  refine lv_idiv hx hb dX1_monthsBack_20 (by decide) ?_
  refine lv_topi (fun x4 ex4 => ?_)
  have hf := bd_s hf ex4
  refine lv_istore_n (lv' := [(3, .int x4), (2, .int x3), (0, .int a0), (1, .int a1)]) hx hb dX1_monthsBack_21 rfl hl (by decide) rfl (fun ls hl => ?_)
  refine lv_iload_n hx hb dX1_monthsBack_22 rfl (lv_at hl 1 rfl) ?_
  refine lv_bipush (v := 12) hx hb dX1_monthsBack_23 (by decide) ?_
  refine lv_irem hx hb dX1_monthsBack_25 (by decide) ?_
  refine lv_iconst (v := 1) hx hb dX1_monthsBack_26 (by decide) ?_
  refine lv_iadd hx hb dX1_monthsBack_27 ?_
  refine lv_topi (fun x5 ex5 => ?_)
  have hf := bd_s hf ex5
  refine lv_istore (lv' := [(4, .int x5), (3, .int x4), (2, .int x3), (0, .int a0), (1, .int a1)]) hx hb dX1_monthsBack_28 hl (by decide) rfl (fun ls hl => ?_)
  refine lv_iload_n hx hb dX1_monthsBack_30 rfl (lv_at hl 1 rfl) ?_
  refine lv_iload hx hb dX1_monthsBack_31 (lv_at hl 0 rfl) ?_
  obtain ⟨v6, hv6, hf⟩ := ob hf
  refine cSi (W.runS (As := [.int x4, .int x5]) (rest := []) ⟨hx, hb, hml, hown, hts⟩ (m_X1_monthLength l D cI cJ cO ah x4 x5 v6 hv6) (va_cwS 2 hts gX1_monthsBack_X1_monthLength rfl rfl rfl (by decide +kernel) ⟨Nat.le_of_ble_eq_true rfl, Nat.le_of_ble_eq_true rfl⟩) ⟨pw_blind, fun U hU hW => ⟨rfl, pw_at hZ va_S.rf hP hK hU hW (Or.inr rfl) [] rfl⟩⟩ rfl rfl hl.1 rfl (lv_room (Nat.le_of_ble_eq_true rfl)) dX1_monthsBack_33 ⟨Nat.zero_le _, Nat.zero_le _⟩) ?_
  refine lv_istore (lv' := [(5, .int v6), (4, .int x5), (3, .int x4), (2, .int x3), (0, .int a0), (1, .int a1)]) hx hb dX1_monthsBack_36 hl (by decide) rfl (fun ls hl => ?_)
  refine lv_iload_n hx hb dX1_monthsBack_38 rfl (lv_at hl 4 rfl) ?_
  obtain ⟨v7, hv7, hf⟩ := ob hf
  refine cSi (W.runS (As := [.int a0]) (rest := []) ⟨hx, hb, hml, hown, hts⟩ (m_X1_dayOf l D cI cJ cO ah a0 v7 hv7) (va_cwS 1 hts gX1_monthsBack_X1_dayOf rfl rfl rfl (by decide +kernel) ⟨Nat.le_of_ble_eq_true rfl, Nat.le_of_ble_eq_true rfl⟩) ⟨pw_blind, fun U hU hW => ⟨rfl, pw_at hZ va_S.rf hP hK hU hW (Or.inr rfl) [] rfl⟩⟩ rfl rfl hl.1 rfl (lv_room (Nat.le_of_ble_eq_true rfl)) dX1_monthsBack_39 ⟨Nat.zero_le _, Nat.zero_le _⟩) ?_
  refine lv_iload_n hx hb dX1_monthsBack_42 rfl (lv_at hl 4 rfl) ?_
  obtain ⟨v8, hv8, hf⟩ := ob hf
  refine cSi (W.runS (As := [.int a0]) (rest := [.int v7]) ⟨hx, hb, hml, hown, hts⟩ (m_X1_yearOf l D cI cJ cO ah a0 v8 hv8) (va_cwS 1 hts gX1_monthsBack_X1_yearOf rfl rfl rfl (by decide +kernel) ⟨Nat.le_of_ble_eq_true rfl, Nat.le_of_ble_eq_true rfl⟩) ⟨pw_blind, fun U hU hW => ⟨rfl, pw_at hZ va_S.rf hP hK hU hW (Or.inr rfl) [] rfl⟩⟩ rfl rfl hl.1 rfl (lv_room (Nat.le_of_ble_eq_true rfl)) dX1_monthsBack_43 ⟨Nat.zero_le _, Nat.zero_le _⟩) ?_
  refine lv_iload_n hx hb dX1_monthsBack_46 rfl (lv_at hl 4 rfl) ?_
  obtain ⟨v9, hv9, hf⟩ := ob hf
  refine cSi (W.runS (As := [.int a0]) (rest := [.int v8, .int v7]) ⟨hx, hb, hml, hown, hts⟩ (m_X1_monthOf l D cI cJ cO ah a0 v9 hv9) (va_cwS 1 hts gX1_monthsBack_X1_monthOf rfl rfl rfl (by decide +kernel) ⟨Nat.le_of_ble_eq_true rfl, Nat.le_of_ble_eq_true rfl⟩) ⟨pw_blind, fun U hU hW => ⟨rfl, pw_at hZ va_S.rf hP hK hU hW (Or.inr rfl) [] rfl⟩⟩ rfl rfl hl.1 rfl (lv_room (Nat.le_of_ble_eq_true rfl)) dX1_monthsBack_47 ⟨Nat.zero_le _, Nat.zero_le _⟩) ?_
  obtain ⟨v10, hv10, hf⟩ := ob hf
  refine cSi (W.runS (As := [.int v8, .int v9]) (rest := [.int v7]) ⟨hx, hb, hml, hown, hts⟩ (m_X1_monthLength l D cI cJ cO ah v8 v9 v10 hv10) (va_cwS 2 hts gX1_monthsBack_X1_monthLength rfl rfl rfl (by decide +kernel) ⟨Nat.le_of_ble_eq_true rfl, Nat.le_of_ble_eq_true rfl⟩) ⟨pw_blind, fun U hU hW => ⟨rfl, pw_at hZ va_S.rf hP hK hU hW (Or.inr rfl) [] rfl⟩⟩ rfl rfl hl.1 rfl (lv_room (Nat.le_of_ble_eq_true rfl)) dX1_monthsBack_50 ⟨Nat.zero_le _, Nat.zero_le _⟩) ?_
  obtain ⟨K11, hK11, hf⟩ := jn_s hf
  have JK11 : ∀ (x12 : Int32) (ls : Array Slot), lv_has ls 8 [(0, .int a0), (3, .int x4), (4, .int x5), (5, .int v6)] → K11 x12 = some r → W p l e (headSpec wsX1_monthsBack ({ frames := 1, cells := 0, slots := 0, locals := 21 })).room s m ([.int a0, .int a1] : List Value).toArray below meth c s.heap [] 0 0 (MQ below (QSi r) ([.int a0, .int a1] : List Value).toArray s 0 0 (fun _ => False)) (F0 m 61 ls [.int x12]) := by
    intro x12 ls hl hf
    rw [hK11] at hf
    refine lv_istore (lv' := [(6, .int x12), (0, .int a0), (3, .int x4), (4, .int x5), (5, .int v6)]) hx hb dX1_monthsBack_61 hl (by decide) rfl (fun ls hl => ?_)
    refine lv_iload hx hb dX1_monthsBack_63 (lv_at hl 0 rfl) ?_
    obtain ⟨K13, hK13, hf⟩ := jn_s hf
    have JK13 : ∀ (x14 : Int32) (ls : Array Slot), lv_has ls 8 [(3, .int x4), (4, .int x5)] → K13 x14 = some r → W p l e (headSpec wsX1_monthsBack ({ frames := 1, cells := 0, slots := 0, locals := 21 })).room s m ([.int a0, .int a1] : List Value).toArray below meth c s.heap [] 0 0 (MQ below (QSi r) ([.int a0, .int a1] : List Value).toArray s 0 0 (fun _ => False)) (F0 m 82 ls [.int x14]) := by
      intro x14 ls hl hf
      rw [hK13] at hf
      refine lv_istore (lv' := [(7, .int x14), (3, .int x4), (4, .int x5)]) hx hb dX1_monthsBack_82 hl (by decide) rfl (fun ls hl => ?_)
      refine lv_sipush (v := 10000) hx hb dX1_monthsBack_84 (by decide) ?_
      refine lv_iload_n hx hb dX1_monthsBack_87 rfl (lv_at hl 1 rfl) ?_
      refine lv_imul hx hb dX1_monthsBack_88 ?_
      refine lv_bipush (v := 100) hx hb dX1_monthsBack_89 (by decide) ?_
      refine lv_iload hx hb dX1_monthsBack_91 (lv_at hl 2 rfl) ?_
      refine lv_imul hx hb dX1_monthsBack_93 ?_
      refine lv_iadd hx hb dX1_monthsBack_94 ?_
      refine lv_iload hx hb dX1_monthsBack_95 (lv_at hl 0 rfl) ?_
      refine lv_iadd hx hb dX1_monthsBack_97 ?_
      exact W.iret hx hb hr (fun t ht _ => ⟨_, rfl, Option.some.inj hf, ht⟩) (fun q hq => absurd hq List.not_mem_nil) dX1_monthsBack_98
    refine lv_if_eq (tgt := 73) hx hb dX1_monthsBack_65 (by decide) (fun c15 => ?_) (fun c15 => ?_)
    · have hf := it hf c15
      refine lv_iload_n hx hb dX1_monthsBack_73 rfl (lv_at hl 1 rfl) ?_
      obtain ⟨v16, hv16, hf⟩ := ob hf
      refine cSi (W.runS (As := [.int a0]) (rest := []) ⟨hx, hb, hml, hown, hts⟩ (m_X1_dayOf l D cI cJ cO ah a0 v16 hv16) (va_cwS 1 hts gX1_monthsBack_X1_dayOf rfl rfl rfl (by decide +kernel) ⟨Nat.le_of_ble_eq_true rfl, Nat.le_of_ble_eq_true rfl⟩) ⟨pw_blind, fun U hU hW => ⟨rfl, pw_at hZ va_S.rf hP hK hU hW (Or.inr rfl) [] rfl⟩⟩ rfl rfl hl.1 rfl (lv_room (Nat.le_of_ble_eq_true rfl)) dX1_monthsBack_74 ⟨Nat.zero_le _, Nat.zero_le _⟩) ?_
      refine lv_iload hx hb dX1_monthsBack_77 (lv_at hl 4 rfl) ?_
      refine va_mmin hx hb (hml.trans hl.1.symm) hown (hts (.methodLink RX1 34 Lib.Math.min.name) (by decide +kernel)) (hts (.static Lib.Math.min.name) (by decide +kernel)) (hts (.initialized "java/lang/Math") (by decide +kernel)) (hts (.code Lib.Math.min.name Lib.Math.min.code 2 (some .int)) (by decide +kernel)) (Nat.le_of_ble_eq_true rfl) (Nat.le_of_ble_eq_true rfl) (Nat.zero_le _) (Nat.zero_le _) dX1_monthsBack_79 ?_
      refine lv_topi (fun x17 ex17 => ?_)
      have hf := bd_s hf ex17
      exact JK13 x17 ls (lv_sub hl [2, 3] rfl) hf
    · have hf := ie hf c15
      refine lv_iload hx hb dX1_monthsBack_68 (lv_at hl 4 rfl) ?_
      refine lv_goto (tgt := 82) hx hb dX1_monthsBack_70 (by decide) ?_
      exact JK13 v6 ls (lv_sub hl [2, 3] rfl) hf
  refine lv_icmp_ne (tgt := 60) hx hb dX1_monthsBack_53 (by decide) (fun c18 => ?_) (fun c18 => ?_)
  · have hf := ie hf c18
    refine lv_iconst (v := 0) hx hb dX1_monthsBack_60 (by decide) ?_
    exact JK11 0 ls (lv_sub hl [4, 2, 1, 0] rfl) hf
  · have hf := it hf c18
    refine lv_iconst (v := 1) hx hb dX1_monthsBack_56 (by decide) ?_
    refine lv_goto (tgt := 61) hx hb dX1_monthsBack_57 (by decide) ?_
    exact JK11 1 ls (lv_sub hl [4, 2, 1, 0] rfl) hf
def f_X3_dateBack (a0 : Int32) (a1 : Int32) (a2 : Int32) : Option Int32 :=
  (if 0 < a2 then gd (¬ a2 = 0) ((f_X1_monthsBack a0 (a1 * (12 / a2))).bind fun v3 : Int32 => some v3) else some a0)
set_option maxHeartbeats 4000000 in
set_option maxRecDepth 100000 in
theorem m_X3_dateBack (l : Launch) (D : va_G) (cI cJ cO : ClassId) (ah : Nat)  (a0 : Int32) (a1 : Int32) (a2 : Int32) (r : Int32) (hf : f_X3_dateBack a0 a1 a2 = some r) : Met l yX3_dateBack wsX3_dateBack ({ frames := 2, cells := 0, slots := 0, locals := 48 }) (va_Pc [.int a0, .int a1, .int a2] (pw D (ty3 cI cJ cO) (some ah) [])) (QSi r) 0 0 (fun _ => False) := by
  refine Met.ofW (cc := cX3_dateBack) (maxL := 3) (ret := (some .int)) (by decide) rfl ?_
  intro p e s m args below meth c s₁ Bd hml hv
  obtain ⟨rfl, hZ, hP, hK⟩ := hv
  have hx := Bd.exec
  have hb := Bd.bytes
  have hr := Bd.returns
  have hts := atoms_spec (ws := wsX3_dateBack) Bd.pre
  have hown : s.vm.findClass RX3 = some m.cls := findClass_of_methodNamed Bd.named
  have hlocks := Bd.notSynchronized
  have hl := lv_entry ([.int a0, .int a1, .int a2]) (n := 3) (Nat.le_of_ble_eq_true rfl)
  rw [lg_entry_eq]
  generalize (lg_sl ([.int a0, .int a1, .int a2]) ++ List.replicate (3 - (lg_sl ([.int a0, .int a1, .int a2])).length) Slot.unset).toArray = ls at hl ⊢
  have hl : lv_has ls 3 [(0, .int a0), (1, .int a1), (2, .int a2)] := hl
  unfold f_X3_dateBack at hf
  refine lv_iload_n hx hb dX3_dateBack_0 rfl (lv_at hl 2 rfl) ?_
  refine lv_if_gt (tgt := 8) hx hb dX3_dateBack_1 (by decide) (fun c1 => ?_) (fun c1 => ?_)
  · have hf := it hf c1
    refine lv_iload_n hx hb dX3_dateBack_8 rfl (lv_at hl 0 rfl) ?_
    refine lv_iload_n hx hb dX3_dateBack_9 rfl (lv_at hl 1 rfl) ?_
    refine lv_bipush (v := 12) hx hb dX3_dateBack_10 (by decide) ?_
    refine lv_iload_n hx hb dX3_dateBack_12 rfl (lv_at hl 2 rfl) ?_
    obtain ⟨c2, hf⟩ := gd_s hf
    refine lv_idiv hx hb dX3_dateBack_13 c2 ?_
    refine lv_imul hx hb dX3_dateBack_14 ?_
    obtain ⟨v3, hv3, hf⟩ := ob hf
    refine cSi (W.runS (As := [.int a0, .int (a1 * (12 / a2))]) (rest := []) ⟨hx, hb, hml, hown, hts⟩ (m_X1_monthsBack l D cI cJ cO ah a0 (a1 * (12 / a2)) v3 hv3) (va_cwS 2 hts gX3_dateBack_X1_monthsBack rfl rfl rfl (by decide +kernel) ⟨Nat.le_of_ble_eq_true rfl, Nat.le_of_ble_eq_true rfl⟩) ⟨pw_blind, fun U hU hW => ⟨rfl, pw_at hZ va_S.rf hP hK hU hW (Or.inr rfl) [] rfl⟩⟩ rfl rfl hl.1 rfl (lv_room (Nat.le_of_ble_eq_true rfl)) dX3_dateBack_15 ⟨Nat.zero_le _, Nat.zero_le _⟩) ?_
    exact W.iret hx hb hr (fun t ht _ => ⟨_, rfl, Option.some.inj hf, ht⟩) (fun q hq => absurd hq List.not_mem_nil) dX3_dateBack_18
  · have hf := ie hf c1
    refine lv_iload_n hx hb dX3_dateBack_4 rfl (lv_at hl 0 rfl) ?_
    refine lv_goto (tgt := 18) hx hb dX3_dateBack_5 (by decide) ?_
    exact W.iret hx hb hr (fun t ht _ => ⟨_, rfl, Option.some.inj hf, ht⟩) (fun q hq => absurd hq List.not_mem_nil) dX3_dateBack_18
def f_X3_countCoupons_L2 (a1 : Int32) (a2 : Int32) (a0 : Int32)  : Nat → Int32 → Option Int32
  | 0, _ => none
  | n2 + 1, x1 => (if 120 < x1 then some x1 else (f_X3_dateBack a1 x1 a2).bind fun v4 : Int32 => (if v4 ≤ a0 then some x1 else bd (x1 + 1) fun x6 : Int32 => f_X3_countCoupons_L2 a1 a2 a0 n2 x6))
def f_X3_countCoupons (N : Nat) (a0 : Int32) (a1 : Int32) (a2 : Int32) : Option Int32 :=
  f_X3_countCoupons_L2 a1 a2 a0 N 0
set_option maxHeartbeats 4000000 in
set_option maxRecDepth 100000 in
theorem m_X3_countCoupons (l : Launch) (D : va_G) (cI cJ cO : ClassId) (ah : Nat)  (a0 : Int32) (a1 : Int32) (a2 : Int32) (N : Nat) (r : Int32) (hf : f_X3_countCoupons N a0 a1 a2 = some r) : Met l yX3_countCoupons wsX3_countCoupons ({ frames := 3, cells := 0, slots := 0, locals := 70 }) (va_Pc [.int a0, .int a1, .int a2] (pw D (ty3 cI cJ cO) (some ah) [])) (QSi r) 0 0 (fun _ => False) := by
  refine Met.ofW (cc := cX3_countCoupons) (maxL := 4) (ret := (some .int)) (by decide) rfl ?_
  intro p e s m args below meth c s₁ Bd hml hv
  obtain ⟨rfl, hZ, hP, hK⟩ := hv
  have hx := Bd.exec
  have hb := Bd.bytes
  have hr := Bd.returns
  have hts := atoms_spec (ws := wsX3_countCoupons) Bd.pre
  have hown : s.vm.findClass RX3 = some m.cls := findClass_of_methodNamed Bd.named
  have hlocks := Bd.notSynchronized
  have hl := lv_entry ([.int a0, .int a1, .int a2]) (n := 4) (Nat.le_of_ble_eq_true rfl)
  rw [lg_entry_eq]
  generalize (lg_sl ([.int a0, .int a1, .int a2]) ++ List.replicate (4 - (lg_sl ([.int a0, .int a1, .int a2])).length) Slot.unset).toArray = ls at hl ⊢
  have hl : lv_has ls 4 [(0, .int a0), (1, .int a1), (2, .int a2)] := hl
  unfold f_X3_countCoupons at hf
  refine lv_iconst (v := 0) hx hb dX3_countCoupons_0 (by decide) ?_
  refine lv_istore_n (lv' := [(3, .int 0), (0, .int a0), (1, .int a1), (2, .int a2)]) hx hb dX3_countCoupons_1 rfl hl (by decide) rfl (fun ls hl => ?_)
  have LP2 : ∀ (n2 : Nat) (x1 : Int32) (ls : Array Slot), lv_has ls 4 [(0, .int a0), (1, .int a1), (2, .int a2), (3, .int x1)] → f_X3_countCoupons_L2 a1 a2 a0 n2 x1 = some r → W p l e (headSpec wsX3_countCoupons ({ frames := 3, cells := 0, slots := 0, locals := 70 })).room s m ([.int a0, .int a1, .int a2] : List Value).toArray below meth c s.heap [] 0 0 (MQ below (QSi r) ([.int a0, .int a1, .int a2] : List Value).toArray s 0 0 (fun _ => False)) (F0 m 2 ls []) := by
    intro n2
    induction n2 with
    | zero => intro x1 ls hl hf; exact (no_s hf).elim
    | succ n2 ih2 =>
      intro x1 ls hl hf
      rw [f_X3_countCoupons_L2] at hf
      refine lv_iload_n hx hb dX3_countCoupons_2 rfl (lv_at hl 3 rfl) ?_
      refine lv_bipush (v := 120) hx hb dX3_countCoupons_3 (by decide) ?_
      refine lv_icmp_gt (tgt := 24) hx hb dX3_countCoupons_5 (by decide) (fun c3 => ?_) (fun c3 => ?_)
      · have hf := it hf c3
        refine lv_iload_n hx hb dX3_countCoupons_24 rfl (lv_at hl 3 rfl) ?_
        exact W.iret hx hb hr (fun t ht _ => ⟨_, rfl, Option.some.inj hf, ht⟩) (fun q hq => absurd hq List.not_mem_nil) dX3_countCoupons_25
      · have hf := ie hf c3
        refine lv_iload_n hx hb dX3_countCoupons_8 rfl (lv_at hl 1 rfl) ?_
        refine lv_iload_n hx hb dX3_countCoupons_9 rfl (lv_at hl 3 rfl) ?_
        refine lv_iload_n hx hb dX3_countCoupons_10 rfl (lv_at hl 2 rfl) ?_
        obtain ⟨v4, hv4, hf⟩ := ob hf
        refine cSi (W.runS (As := [.int a1, .int x1, .int a2]) (rest := []) ⟨hx, hb, hml, hown, hts⟩ (m_X3_dateBack l D cI cJ cO ah a1 x1 a2 v4 hv4) (va_cwS 3 hts gX3_countCoupons_X3_dateBack rfl rfl rfl (by decide +kernel) ⟨Nat.le_of_ble_eq_true rfl, Nat.le_of_ble_eq_true rfl⟩) ⟨pw_blind, fun U hU hW => ⟨rfl, pw_at hZ va_S.rf hP hK hU hW (Or.inr rfl) [] rfl⟩⟩ rfl rfl hl.1 rfl (lv_room (Nat.le_of_ble_eq_true rfl)) dX3_countCoupons_11 ⟨Nat.zero_le _, Nat.zero_le _⟩) ?_
        refine lv_iload_n hx hb dX3_countCoupons_14 rfl (lv_at hl 0 rfl) ?_
        refine lv_icmp_le (tgt := 24) hx hb dX3_countCoupons_15 (by decide) (fun c5 => ?_) (fun c5 => ?_)
        · have hf := it hf c5
          refine lv_iload_n hx hb dX3_countCoupons_24 rfl (lv_at hl 3 rfl) ?_
          exact W.iret hx hb hr (fun t ht _ => ⟨_, rfl, Option.some.inj hf, ht⟩) (fun q hq => absurd hq List.not_mem_nil) dX3_countCoupons_25
        · have hf := ie hf c5
          obtain ⟨x6, ex6⟩ : ∃ y : Int32, y = x1 + 1 := ⟨_, rfl⟩
          have hf := bd_s hf ex6
          refine lv_iinc (v := x6) (lv' := [(3, .int x6), (0, .int a0), (1, .int a1), (2, .int a2)]) hx hb dX3_countCoupons_18 hl (k := 3) rfl (by rw [ex6]; rfl) (by decide) rfl (fun ls hl => ?_)
          refine lv_goto (tgt := 2) hx hb dX3_countCoupons_21 (by decide) ?_
          exact ih2 x6 ls (lv_sub hl [1, 2, 3, 0] rfl) hf
  exact LP2 N 0 ls (lv_sub hl [1, 2, 3, 0] rfl) hf
def f_X3_firstBehind_L2 (n : Nat) (a0 : Int32) (ds : Nat → Int32)  : Nat → Int32 → Option Int32
  | 0, _ => none
  | n2 + 1, x1 => (if (nI n) ≤ x1 then some x1 else gd (¬ (x1 < 0 ∨ n ≤ x1.toNatClampNeg)) ((if a0 < (ds x1.toNatClampNeg) then some x1 else bd (x1 + 1) fun x6 : Int32 => f_X3_firstBehind_L2 n a0 ds n2 x6)))
def f_X3_firstBehind (N : Nat) (n : Nat) (ds : Nat → Int32) (a0 : Int32) : Option Int32 :=
  f_X3_firstBehind_L2 n a0 ds N 0
theorem inX3_firstBehind_X3 : ∀ w ∈ wsX30, w ∈ wsX3_firstBehind := by decide +kernel
set_option maxHeartbeats 4000000 in
set_option maxRecDepth 100000 in
theorem m_X3_firstBehind (l : Launch) (D : va_G) (cI cJ cO : ClassId) (ah : Nat) (hs hd : Nat) (S : Nat → Int32) (T : Nat → Int64) (n : Nat) (ds : Nat → Int32) (a0 : Int32) (N : Nat) (r : Int32) (hf : f_X3_firstBehind N n ds a0 = some r) : Met l yX3_firstBehind wsX3_firstBehind ({ frames := 0, cells := 0, slots := 0, locals := 0 }) (va_Pc [.ref hs, .int a0] (pw D (ty3 cI cJ cO) (some ah) [eA cI ah, eD cI hd n ds, eS hs hd S T])) (QSi r) 0 0 (fun _ => False) := by
  refine Met.ofW (cc := cX3_firstBehind) (maxL := 3) (ret := (some .int)) (by decide) rfl ?_
  intro p e s m args below meth c s₁ Bd hml hv
  obtain ⟨rfl, hZ, hP, hK⟩ := hv
  have hx := Bd.exec
  have hb := Bd.bytes
  have hr := Bd.returns
  have hts := atoms_spec (ws := wsX3_firstBehind) Bd.pre
  have hown : s.vm.findClass RX3 = some m.cls := findClass_of_methodNamed Bd.named
  have hlocks := Bd.notSynchronized
  have hl := lv_entry ([.ref hs, .int a0]) (n := 3) (Nat.le_of_ble_eq_true rfl)
  rw [lg_entry_eq]
  generalize (lg_sl ([.ref hs, .int a0]) ++ List.replicate (3 - (lg_sl ([.ref hs, .int a0])).length) Slot.unset).toArray = ls at hl ⊢
  have hl : lv_has ls 3 [(0, .ref hs), (1, .int a0)] := hl
  unfold f_X3_firstBehind at hf
  refine lv_iconst (v := 0) hx hb dX3_firstBehind_0 (by decide) ?_
  refine lv_istore_n (lv' := [(2, .int 0), (0, .ref hs), (1, .int a0)]) hx hb dX3_firstBehind_1 rfl hl (by decide) rfl (fun ls hl => ?_)
  have LP2 : ∀ (n2 : Nat) (x1 : Int32) (ls : Array Slot), lv_has ls 3 [(0, .ref hs), (1, .int a0), (2, .int x1)] → f_X3_firstBehind_L2 n a0 ds n2 x1 = some r → W p l e (headSpec wsX3_firstBehind ({ frames := 0, cells := 0, slots := 0, locals := 0 })).room s m ([.ref hs, .int a0] : List Value).toArray below meth c s.heap [] 0 0 (MQ below (QSi r) ([.ref hs, .int a0] : List Value).toArray s 0 0 (fun _ => False)) (F0 m 2 ls []) := by
    intro n2
    induction n2 with
    | zero => intro x1 ls hl hf; exact (no_s hf).elim
    | succ n2 ih2 =>
      intro x1 ls hl hf
      rw [f_X3_firstBehind_L2] at hf
      refine lv_iload_n hx hb dX3_firstBehind_2 rfl (lv_at hl 2 rfl) ?_
      refine lv_aload_n hx hb dX3_firstBehind_3 rfl (lv_at hl 0 rfl) ?_
      refine va_get (D := D) (ci := 2) (v := .ref hd) (C := RX3) (T := TX3) (N := 9) hx hb hts inX3_firstBehind_X3 hown hK hP 2 rfl rfl 6 (by decide) (hts (.fieldLink RX3 41 "BondDesk$Schedule" "dates" "[I") (by decide +kernel)) (fun _ h9 => h9) rfl dX3_firstBehind_4 ?_
      refine va_alen (v := (nI n)) hx hb hK hP 1 0 rfl rfl rfl dX3_firstBehind_7 ?_
      refine lv_icmp_ge (tgt := 27) hx hb dX3_firstBehind_8 (by decide) (fun c3 => ?_) (fun c3 => ?_)
      · have hf := it hf c3
        refine lv_iload_n hx hb dX3_firstBehind_27 rfl (lv_at hl 2 rfl) ?_
        exact W.iret hx hb hr (fun t ht _ => ⟨_, rfl, Option.some.inj hf, ht⟩) (fun q hq => absurd hq List.not_mem_nil) dX3_firstBehind_28
      · have hf := ie hf c3
        refine lv_aload_n hx hb dX3_firstBehind_11 rfl (lv_at hl 0 rfl) ?_
        refine va_get (D := D) (ci := 2) (v := .ref hd) (C := RX3) (T := TX3) (N := 9) hx hb hts inX3_firstBehind_X3 hown hK hP 2 rfl rfl 6 (by decide) (hts (.fieldLink RX3 41 "BondDesk$Schedule" "dates" "[I") (by decide +kernel)) (fun _ h9 => h9) rfl dX3_firstBehind_12 ?_
        refine lv_iload_n hx hb dX3_firstBehind_15 rfl (lv_at hl 2 rfl) ?_
        obtain ⟨c4, hf⟩ := gd_s hf
        refine va_iald hx hb hK hP 1 0 rfl rfl c4 dX3_firstBehind_16 ?_
        refine lv_iload_n hx hb dX3_firstBehind_17 rfl (lv_at hl 1 rfl) ?_
        refine lv_icmp_gt (tgt := 27) hx hb dX3_firstBehind_18 (by decide) (fun c5 => ?_) (fun c5 => ?_)
        · have hf := it hf c5
          refine lv_iload_n hx hb dX3_firstBehind_27 rfl (lv_at hl 2 rfl) ?_
          exact W.iret hx hb hr (fun t ht _ => ⟨_, rfl, Option.some.inj hf, ht⟩) (fun q hq => absurd hq List.not_mem_nil) dX3_firstBehind_28
        · have hf := ie hf c5
          obtain ⟨x6, ex6⟩ : ∃ y : Int32, y = x1 + 1 := ⟨_, rfl⟩
          have hf := bd_s hf ex6
          refine lv_iinc (v := x6) (lv' := [(2, .int x6), (0, .ref hs), (1, .int a0)]) hx hb dX3_firstBehind_21 hl (k := 2) rfl (by rw [ex6]; rfl) (by decide) rfl (fun ls hl => ?_)
          refine lv_goto (tgt := 2) hx hb dX3_firstBehind_24 (by decide) ?_
          exact ih2 x6 ls (lv_sub hl [1, 2, 0] rfl) hf
  exact LP2 N 0 ls (lv_sub hl [1, 2, 0] rfl) hf
def f_X3_beginOf (S : Nat → Int32) (n : Nat) (ds : Nat → Int32) (a0 : Int32) : Option Int32 :=
  (if a0 < 1 then some (S 0) else (if (nI n) < a0 then some (S 0) else bd (a0 - 1 : Int32) fun x3 : Int32 => gd (¬ (x3 < 0 ∨ n ≤ x3.toNatClampNeg)) (some (ds x3.toNatClampNeg))))
theorem inX3_beginOf_X3 : ∀ w ∈ wsX30, w ∈ wsX3_beginOf := by decide +kernel
set_option maxHeartbeats 4000000 in
set_option maxRecDepth 100000 in
theorem m_X3_beginOf (l : Launch) (D : va_G) (cI cJ cO : ClassId) (ah : Nat) (hs hd : Nat) (S : Nat → Int32) (T : Nat → Int64) (n : Nat) (ds : Nat → Int32) (a0 : Int32) (r : Int32) (hf : f_X3_beginOf S n ds a0 = some r) : Met l yX3_beginOf wsX3_beginOf ({ frames := 0, cells := 0, slots := 0, locals := 0 }) (va_Pc [.ref hs, .int a0] (pw D (ty3 cI cJ cO) (some ah) [eA cI ah, eD cI hd n ds, eS hs hd S T])) (QSi r) 0 0 (fun _ => False) := by
  refine Met.ofW (cc := cX3_beginOf) (maxL := 2) (ret := (some .int)) (by decide) rfl ?_
  intro p e s m args below meth c s₁ Bd hml hv
  obtain ⟨rfl, hZ, hP, hK⟩ := hv
  have hx := Bd.exec
  have hb := Bd.bytes
  have hr := Bd.returns
  have hts := atoms_spec (ws := wsX3_beginOf) Bd.pre
  have hown : s.vm.findClass RX3 = some m.cls := findClass_of_methodNamed Bd.named
  have hlocks := Bd.notSynchronized
  have hl := lv_entry ([.ref hs, .int a0]) (n := 2) (Nat.le_of_ble_eq_true rfl)
  rw [lg_entry_eq]
  generalize (lg_sl ([.ref hs, .int a0]) ++ List.replicate (2 - (lg_sl ([.ref hs, .int a0])).length) Slot.unset).toArray = ls at hl ⊢
  have hl : lv_has ls 2 [(0, .ref hs), (1, .int a0)] := hl
  unfold f_X3_beginOf at hf
  refine lv_iload_n hx hb dX3_beginOf_0 rfl (lv_at hl 1 rfl) ?_
  refine lv_iconst (v := 1) hx hb dX3_beginOf_1 (by decide) ?_
  refine lv_icmp_lt (tgt := 25) hx hb dX3_beginOf_2 (by decide) (fun c1 => ?_) (fun c1 => ?_)
  · have hf := it hf c1
    refine lv_aload_n hx hb dX3_beginOf_25 rfl (lv_at hl 0 rfl) ?_
    refine va_get (D := D) (ci := 2) (v := .int (S 0)) (C := RX3) (T := TX3) (N := 9) hx hb hts inX3_beginOf_X3 hown hK hP 2 rfl rfl 0 (by decide) (hts (.fieldLink RX3 7 "BondDesk$Schedule" "issue" "I") (by decide +kernel)) (fun _ h9 => h9) rfl dX3_beginOf_26 ?_
    exact W.iret hx hb hr (fun t ht _ => ⟨_, rfl, Option.some.inj hf, ht⟩) (fun q hq => absurd hq List.not_mem_nil) dX3_beginOf_29
  · have hf := ie hf c1
    refine lv_iload_n hx hb dX3_beginOf_5 rfl (lv_at hl 1 rfl) ?_
    refine lv_aload_n hx hb dX3_beginOf_6 rfl (lv_at hl 0 rfl) ?_
    refine va_get (D := D) (ci := 2) (v := .ref hd) (C := RX3) (T := TX3) (N := 9) hx hb hts inX3_beginOf_X3 hown hK hP 2 rfl rfl 6 (by decide) (hts (.fieldLink RX3 41 "BondDesk$Schedule" "dates" "[I") (by decide +kernel)) (fun _ h9 => h9) rfl dX3_beginOf_7 ?_
    refine va_alen (v := (nI n)) hx hb hK hP 1 0 rfl rfl rfl dX3_beginOf_10 ?_
    refine lv_icmp_gt (tgt := 25) hx hb dX3_beginOf_11 (by decide) (fun c2 => ?_) (fun c2 => ?_)
    · have hf := it hf c2
      refine lv_aload_n hx hb dX3_beginOf_25 rfl (lv_at hl 0 rfl) ?_
      refine va_get (D := D) (ci := 2) (v := .int (S 0)) (C := RX3) (T := TX3) (N := 9) hx hb hts inX3_beginOf_X3 hown hK hP 2 rfl rfl 0 (by decide) (hts (.fieldLink RX3 7 "BondDesk$Schedule" "issue" "I") (by decide +kernel)) (fun _ h9 => h9) rfl dX3_beginOf_26 ?_
      exact W.iret hx hb hr (fun t ht _ => ⟨_, rfl, Option.some.inj hf, ht⟩) (fun q hq => absurd hq List.not_mem_nil) dX3_beginOf_29
    · have hf := ie hf c2
      refine lv_aload_n hx hb dX3_beginOf_14 rfl (lv_at hl 0 rfl) ?_
      refine va_get (D := D) (ci := 2) (v := .ref hd) (C := RX3) (T := TX3) (N := 9) hx hb hts inX3_beginOf_X3 hown hK hP 2 rfl rfl 6 (by decide) (hts (.fieldLink RX3 41 "BondDesk$Schedule" "dates" "[I") (by decide +kernel)) (fun _ h9 => h9) rfl dX3_beginOf_15 ?_
      refine lv_iload_n hx hb dX3_beginOf_18 rfl (lv_at hl 1 rfl) ?_
      refine lv_iconst (v := 1) hx hb dX3_beginOf_19 (by decide) ?_
      refine lv_isub hx hb dX3_beginOf_20 ?_
      refine lv_topi (fun x3 ex3 => ?_)
      have hf := bd_s hf ex3
      obtain ⟨c4, hf⟩ := gd_s hf
      refine va_iald hx hb hK hP 1 0 rfl rfl c4 dX3_beginOf_21 ?_
      refine lv_goto (tgt := 29) hx hb dX3_beginOf_22 (by decide) ?_
      exact W.iret hx hb hr (fun t ht _ => ⟨_, rfl, Option.some.inj hf, ht⟩) (fun q hq => absurd hq List.not_mem_nil) dX3_beginOf_29
def f_X3_couponFor (S : Nat → Int32) (T : Nat → Int64) (a0 : Int32) (a1 : Int64) : Option Int64 :=
  jn (fun (_ : Unit) => bd (10000 * ((S 3).toInt64) : Int64) fun x2 : Int64 => (if 0 < (lg_cmp x2 0) then gd (¬ x2 = 0) (some ((a1 * ((S 2).toInt64)) / x2)) else some 0)) fun K1 => (if a0 = 0 then (if (S 0) ≤ (S 5) then K1 () else (if 0 < (lg_cmp (T 8) 0) then bd (T 8 : Int64) fun x8 : Int64 => gd (¬ x8 = 0) (some (((a1 * ((S 2).toInt64)) * (T 7)) / x8)) else some 0)) else K1 ())
theorem inX3_couponFor_X3 : ∀ w ∈ wsX30, w ∈ wsX3_couponFor := by decide +kernel
set_option maxHeartbeats 4000000 in
set_option maxRecDepth 100000 in
theorem m_X3_couponFor (l : Launch) (D : va_G) (cI cJ cO : ClassId) (ah : Nat) (hs hd : Nat) (S : Nat → Int32) (T : Nat → Int64) (n : Nat) (ds : Nat → Int32) (a0 : Int32) (a1 : Int64) (r : Int64) (hf : f_X3_couponFor S T a0 a1 = some r) : Met l yX3_couponFor wsX3_couponFor ({ frames := 0, cells := 0, slots := 0, locals := 0 }) (va_Pc [.ref hs, .int a0, .long a1] (pw D (ty3 cI cJ cO) (some ah) [eA cI ah, eD cI hd n ds, eS hs hd S T])) (QSl r) 0 0 (fun _ => False) := by
  refine Met.ofW (cc := cX3_couponFor) (maxL := 6) (ret := (some .long)) (by decide) rfl ?_
  intro p e s m args below meth c s₁ Bd hml hv
  obtain ⟨rfl, hZ, hP, hK⟩ := hv
  have hx := Bd.exec
  have hb := Bd.bytes
  have hr := Bd.returns
  have hts := atoms_spec (ws := wsX3_couponFor) Bd.pre
  have hown : s.vm.findClass RX3 = some m.cls := findClass_of_methodNamed Bd.named
  have hlocks := Bd.notSynchronized
  have hl := lv_entry ([.ref hs, .int a0, .long a1]) (n := 6) (Nat.le_of_ble_eq_true rfl)
  rw [lg_entry_eq]
  generalize (lg_sl ([.ref hs, .int a0, .long a1]) ++ List.replicate (6 - (lg_sl ([.ref hs, .int a0, .long a1])).length) Slot.unset).toArray = ls at hl ⊢
  have hl : lv_has ls 6 [(0, .ref hs), (1, .int a0), (2, .long a1)] := hl
  unfold f_X3_couponFor at hf
  refine lv_iload_n hx hb dX3_couponFor_0 rfl (lv_at hl 1 rfl) ?_
  obtain ⟨K1, hK1, hf⟩ := jn_s hf
  have JK1 : ∀  (ls : Array Slot), lv_has ls 6 [(0, .ref hs), (2, .long a1)] → K1 () = some r → W p l e (headSpec wsX3_couponFor ({ frames := 0, cells := 0, slots := 0, locals := 0 })).room s m ([.ref hs, .int a0, .long a1] : List Value).toArray below meth c s.heap [] 0 0 (MQ below (QSl r) ([.ref hs, .int a0, .long a1] : List Value).toArray s 0 0 (fun _ => False)) (F0 m 46 ls []) := by
    intro  ls hl hf
    rw [hK1] at hf
    refine lv_ldc2 hx hb hown (hts (.constantLong RX3 65 (10000)) (by decide +kernel)) dX3_couponFor_46 ?_
    refine lv_aload_n hx hb dX3_couponFor_49 rfl (lv_at hl 0 rfl) ?_
    refine va_get (D := D) (ci := 2) (v := .int (S 3)) (C := RX3) (T := TX3) (N := 9) hx hb hts inX3_couponFor_X3 hown hK hP 2 rfl rfl 3 (by decide) (hts (.fieldLink RX3 19 "BondDesk$Schedule" "perYear" "I") (by decide +kernel)) (fun _ h9 => h9) rfl dX3_couponFor_50 ?_
    refine lv_i2l hx hb dX3_couponFor_53 rfl ?_
    refine lv_lmul hx hb dX3_couponFor_54 ?_
    refine lv_topl (fun x2 ex2 => ?_)
    have hf := bd_s hf ex2
    refine lv_lstore (lv' := [(4, .long x2), (0, .ref hs), (2, .long a1)]) hx hb dX3_couponFor_55 hl (by decide) rfl (fun ls hl => ?_)
    refine lv_lload hx hb dX3_couponFor_57 (lv_at hl 0 rfl) ?_
    refine lv_lconst (v := 0) hx hb dX3_couponFor_59 (by decide) ?_
    refine W.lcmp hx hb dX3_couponFor_60 ?_
    refine lv_if_gt (tgt := 68) hx hb dX3_couponFor_61 (by decide) (fun c3 => ?_) (fun c3 => ?_)
    · have hf := it hf c3
      refine lv_lload_n hx hb dX3_couponFor_68 rfl (lv_at hl 2 rfl) ?_
      refine lv_aload_n hx hb dX3_couponFor_69 rfl (lv_at hl 1 rfl) ?_
      refine va_get (D := D) (ci := 2) (v := .int (S 2)) (C := RX3) (T := TX3) (N := 9) hx hb hts inX3_couponFor_X3 hown hK hP 2 rfl rfl 2 (by decide) (hts (.fieldLink RX3 16 "BondDesk$Schedule" "rate" "I") (by decide +kernel)) (fun _ h9 => h9) rfl dX3_couponFor_70 ?_
      refine lv_i2l hx hb dX3_couponFor_73 rfl ?_
      refine lv_lmul hx hb dX3_couponFor_74 ?_
      refine lv_lload hx hb dX3_couponFor_75 (lv_at hl 0 rfl) ?_
      obtain ⟨c4, hf⟩ := gd_s hf
      refine lv_ldiv hx hb dX3_couponFor_77 c4 ?_
      exact W.lret hx hb hr (fun t ht _ => ⟨_, rfl, Option.some.inj hf, ht⟩) (fun q hq => absurd hq List.not_mem_nil) dX3_couponFor_78
    · have hf := ie hf c3
      refine lv_lconst (v := 0) hx hb dX3_couponFor_64 (by decide) ?_
      refine lv_goto (tgt := 78) hx hb dX3_couponFor_65 (by decide) ?_
      exact W.lret hx hb hr (fun t ht _ => ⟨_, rfl, Option.some.inj hf, ht⟩) (fun q hq => absurd hq List.not_mem_nil) dX3_couponFor_78
  refine lv_if_ne (tgt := 46) hx hb dX3_couponFor_1 (by decide) (fun c5 => ?_) (fun c5 => ?_)
  · have hf := ie hf c5
    exact JK1  ls (lv_sub hl [0, 2] rfl) hf
  · have hf := it hf c5
    refine lv_aload_n hx hb dX3_couponFor_4 rfl (lv_at hl 0 rfl) ?_
    refine va_get (D := D) (ci := 2) (v := .int (S 5)) (C := RX3) (T := TX3) (N := 9) hx hb hts inX3_couponFor_X3 hown hK hP 2 rfl rfl 5 (by decide) (hts (.fieldLink RX3 29 "BondDesk$Schedule" "regularBegin" "I") (by decide +kernel)) (fun _ h9 => h9) rfl dX3_couponFor_5 ?_
    refine lv_aload_n hx hb dX3_couponFor_8 rfl (lv_at hl 0 rfl) ?_
    refine va_get (D := D) (ci := 2) (v := .int (S 0)) (C := RX3) (T := TX3) (N := 9) hx hb hts inX3_couponFor_X3 hown hK hP 2 rfl rfl 0 (by decide) (hts (.fieldLink RX3 7 "BondDesk$Schedule" "issue" "I") (by decide +kernel)) (fun _ h9 => h9) rfl dX3_couponFor_9 ?_
    refine lv_icmp_ge (tgt := 46) hx hb dX3_couponFor_12 (by decide) (fun c6 => ?_) (fun c6 => ?_)
    · have hf := it hf c6
      exact JK1  ls (lv_sub hl [0, 2] rfl) hf
    · have hf := ie hf c6
      refine lv_aload_n hx hb dX3_couponFor_15 rfl (lv_at hl 0 rfl) ?_
      refine va_get (D := D) (ci := 2) (v := .long (T 8)) (C := RX3) (T := TX3) (N := 9) hx hb hts inX3_couponFor_X3 hown hK hP 2 rfl rfl 8 (by decide) (hts (.fieldLink RX3 57 "BondDesk$Schedule" "firstYear" "J") (by decide +kernel)) (fun _ h9 => h9) rfl dX3_couponFor_16 ?_
      refine lv_lconst (v := 0) hx hb dX3_couponFor_19 (by decide) ?_
      refine W.lcmp hx hb dX3_couponFor_20 ?_
      refine lv_if_gt (tgt := 28) hx hb dX3_couponFor_21 (by decide) (fun c7 => ?_) (fun c7 => ?_)
      · have hf := it hf c7
        refine lv_lload_n hx hb dX3_couponFor_28 rfl (lv_at hl 2 rfl) ?_
        refine lv_aload_n hx hb dX3_couponFor_29 rfl (lv_at hl 0 rfl) ?_
        refine va_get (D := D) (ci := 2) (v := .int (S 2)) (C := RX3) (T := TX3) (N := 9) hx hb hts inX3_couponFor_X3 hown hK hP 2 rfl rfl 2 (by decide) (hts (.fieldLink RX3 16 "BondDesk$Schedule" "rate" "I") (by decide +kernel)) (fun _ h9 => h9) rfl dX3_couponFor_30 ?_
        refine lv_i2l hx hb dX3_couponFor_33 rfl ?_
        refine lv_lmul hx hb dX3_couponFor_34 ?_
        refine lv_aload_n hx hb dX3_couponFor_35 rfl (lv_at hl 0 rfl) ?_
        refine va_get (D := D) (ci := 2) (v := .long (T 7)) (C := RX3) (T := TX3) (N := 9) hx hb hts inX3_couponFor_X3 hown hK hP 2 rfl rfl 7 (by decide) (hts (.fieldLink RX3 49 "BondDesk$Schedule" "firstDays" "J") (by decide +kernel)) (fun _ h9 => h9) rfl dX3_couponFor_36 ?_
        refine lv_lmul hx hb dX3_couponFor_39 ?_
        refine lv_aload_n hx hb dX3_couponFor_40 rfl (lv_at hl 0 rfl) ?_
        refine va_get (D := D) (ci := 2) (v := .long (T 8)) (C := RX3) (T := TX3) (N := 9) hx hb hts inX3_couponFor_X3 hown hK hP 2 rfl rfl 8 (by decide) (hts (.fieldLink RX3 57 "BondDesk$Schedule" "firstYear" "J") (by decide +kernel)) (fun _ h9 => h9) rfl dX3_couponFor_41 ?_
        refine lv_topl (fun x8 ex8 => ?_)
        have hf := bd_s hf ex8
        obtain ⟨c9, hf⟩ := gd_s hf
        refine lv_ldiv hx hb dX3_couponFor_44 c9 ?_
        exact W.lret hx hb hr (fun t ht _ => ⟨_, rfl, Option.some.inj hf, ht⟩) (fun q hq => absurd hq List.not_mem_nil) dX3_couponFor_45
      · have hf := ie hf c7
        refine lv_lconst (v := 0) hx hb dX3_couponFor_24 (by decide) ?_
        refine lv_goto (tgt := 45) hx hb dX3_couponFor_25 (by decide) ?_
        exact W.lret hx hb hr (fun t ht _ => ⟨_, rfl, Option.some.inj hf, ht⟩) (fun q hq => absurd hq List.not_mem_nil) dX3_couponFor_45
def f_X3_yearOfPeriod (S : Nat → Int32) (n : Nat) (ds : Nat → Int32) (a0 : Int32) : Option Int64 :=
  (if (S 4) = 2 then some 3650000 else (if (S 4) = 3 then (if a0 < 0 then some 3600000 else (if a0 < (nI n) then jn (fun (x6 : Int32) => gd (¬ (a0 < 0 ∨ n ≤ a0.toNatClampNeg)) ((f_X1_daysBetween x6 (ds a0.toNatClampNeg)).bind fun v8 : Int32 => some ((10000 * ((S 3).toInt64)) * (v8.toInt64)))) fun K5 => (if a0 = 0 then K5 (S 5) else bd (a0 - 1 : Int32) fun x10 : Int32 => gd (¬ (x10 < 0 ∨ n ≤ x10.toNatClampNeg)) (K5 (ds x10.toNatClampNeg))) else some 3600000)) else some 3600000))
theorem inX3_yearOfPeriod_X3 : ∀ w ∈ wsX30, w ∈ wsX3_yearOfPeriod := by decide +kernel
set_option maxHeartbeats 4000000 in
set_option maxRecDepth 100000 in
theorem m_X3_yearOfPeriod (l : Launch) (D : va_G) (cI cJ cO : ClassId) (ah : Nat) (hs hd : Nat) (S : Nat → Int32) (T : Nat → Int64) (n : Nat) (ds : Nat → Int32) (a0 : Int32) (r : Int64) (hf : f_X3_yearOfPeriod S n ds a0 = some r) : Met l yX3_yearOfPeriod wsX3_yearOfPeriod ({ frames := 2, cells := 0, slots := 0, locals := 45 }) (va_Pc [.ref hs, .int a0] (pw D (ty3 cI cJ cO) (some ah) [eA cI ah, eD cI hd n ds, eS hs hd S T])) (QSl r) 0 0 (fun _ => False) := by
  refine Met.ofW (cc := cX3_yearOfPeriod) (maxL := 3) (ret := (some .long)) (by decide) rfl ?_
  intro p e s m args below meth c s₁ Bd hml hv
  obtain ⟨rfl, hZ, hP, hK⟩ := hv
  have hx := Bd.exec
  have hb := Bd.bytes
  have hr := Bd.returns
  have hts := atoms_spec (ws := wsX3_yearOfPeriod) Bd.pre
  have hown : s.vm.findClass RX3 = some m.cls := findClass_of_methodNamed Bd.named
  have hlocks := Bd.notSynchronized
  have hl := lv_entry ([.ref hs, .int a0]) (n := 3) (Nat.le_of_ble_eq_true rfl)
  rw [lg_entry_eq]
  generalize (lg_sl ([.ref hs, .int a0]) ++ List.replicate (3 - (lg_sl ([.ref hs, .int a0])).length) Slot.unset).toArray = ls at hl ⊢
  have hl : lv_has ls 3 [(0, .ref hs), (1, .int a0)] := hl
  unfold f_X3_yearOfPeriod at hf
  refine lv_aload_n hx hb dX3_yearOfPeriod_0 rfl (lv_at hl 0 rfl) ?_
  refine va_get (D := D) (ci := 2) (v := .int (S 4)) (C := RX3) (T := TX3) (N := 9) hx hb hts inX3_yearOfPeriod_X3 hown hK hP 2 rfl rfl 4 (by decide) (hts (.fieldLink RX3 22 "BondDesk$Schedule" "way" "I") (by decide +kernel)) (fun _ h9 => h9) rfl dX3_yearOfPeriod_1 ?_
  refine lv_iconst (v := 2) hx hb dX3_yearOfPeriod_4 (by decide) ?_
  refine lv_icmp_ne (tgt := 12) hx hb dX3_yearOfPeriod_5 (by decide) (fun c1 => ?_) (fun c1 => ?_)
  · have hf := ie hf c1
    refine lv_aload_n hx hb dX3_yearOfPeriod_12 rfl (lv_at hl 0 rfl) ?_
    refine va_get (D := D) (ci := 2) (v := .int (S 4)) (C := RX3) (T := TX3) (N := 9) hx hb hts inX3_yearOfPeriod_X3 hown hK hP 2 rfl rfl 4 (by decide) (hts (.fieldLink RX3 22 "BondDesk$Schedule" "way" "I") (by decide +kernel)) (fun _ h9 => h9) rfl dX3_yearOfPeriod_13 ?_
    refine lv_iconst (v := 3) hx hb dX3_yearOfPeriod_16 (by decide) ?_
    refine lv_icmp_ne (tgt := 33) hx hb dX3_yearOfPeriod_17 (by decide) (fun c2 => ?_) (fun c2 => ?_)
    · have hf := ie hf c2
      refine lv_ldc2 hx hb hown (hts (.constantLong RX3 82 (3600000)) (by decide +kernel)) dX3_yearOfPeriod_33 ?_
      exact W.lret hx hb hr (fun t ht _ => ⟨_, rfl, Option.some.inj hf, ht⟩) (fun q hq => absurd hq List.not_mem_nil) dX3_yearOfPeriod_36
    · have hf := it hf c2
      refine lv_iload_n hx hb dX3_yearOfPeriod_20 rfl (lv_at hl 1 rfl) ?_
      refine lv_if_lt (tgt := 33) hx hb dX3_yearOfPeriod_21 (by decide) (fun c3 => ?_) (fun c3 => ?_)
      · have hf := it hf c3
        refine lv_ldc2 hx hb hown (hts (.constantLong RX3 82 (3600000)) (by decide +kernel)) dX3_yearOfPeriod_33 ?_
        exact W.lret hx hb hr (fun t ht _ => ⟨_, rfl, Option.some.inj hf, ht⟩) (fun q hq => absurd hq List.not_mem_nil) dX3_yearOfPeriod_36
      · have hf := ie hf c3
        refine lv_iload_n hx hb dX3_yearOfPeriod_24 rfl (lv_at hl 1 rfl) ?_
        refine lv_aload_n hx hb dX3_yearOfPeriod_25 rfl (lv_at hl 0 rfl) ?_
        refine va_get (D := D) (ci := 2) (v := .ref hd) (C := RX3) (T := TX3) (N := 9) hx hb hts inX3_yearOfPeriod_X3 hown hK hP 2 rfl rfl 6 (by decide) (hts (.fieldLink RX3 41 "BondDesk$Schedule" "dates" "[I") (by decide +kernel)) (fun _ h9 => h9) rfl dX3_yearOfPeriod_26 ?_
        refine va_alen (v := (nI n)) hx hb hK hP 1 0 rfl rfl rfl dX3_yearOfPeriod_29 ?_
        refine lv_icmp_lt (tgt := 37) hx hb dX3_yearOfPeriod_30 (by decide) (fun c4 => ?_) (fun c4 => ?_)
        · have hf := it hf c4
          refine lv_iload_n hx hb dX3_yearOfPeriod_37 rfl (lv_at hl 1 rfl) ?_
          obtain ⟨K5, hK5, hf⟩ := jn_s hf
          have JK5 : ∀ (x6 : Int32) (ls : Array Slot), lv_has ls 3 [(0, .ref hs), (1, .int a0)] → K5 x6 = some r → W p l e (headSpec wsX3_yearOfPeriod ({ frames := 2, cells := 0, slots := 0, locals := 45 })).room s m ([.ref hs, .int a0] : List Value).toArray below meth c s.heap [] 0 0 (MQ below (QSl r) ([.ref hs, .int a0] : List Value).toArray s 0 0 (fun _ => False)) (F0 m 56 ls [.int x6]) := by
            intro x6 ls hl hf
            rw [hK5] at hf
            refine lv_istore_n (lv' := [(2, .int x6), (0, .ref hs), (1, .int a0)]) hx hb dX3_yearOfPeriod_56 rfl hl (by decide) rfl (fun ls hl => ?_)
            refine lv_ldc2 hx hb hown (hts (.constantLong RX3 65 (10000)) (by decide +kernel)) dX3_yearOfPeriod_57 ?_
            refine lv_aload_n hx hb dX3_yearOfPeriod_60 rfl (lv_at hl 1 rfl) ?_
            refine va_get (D := D) (ci := 2) (v := .int (S 3)) (C := RX3) (T := TX3) (N := 9) hx hb hts inX3_yearOfPeriod_X3 hown hK hP 2 rfl rfl 3 (by decide) (hts (.fieldLink RX3 19 "BondDesk$Schedule" "perYear" "I") (by decide +kernel)) (fun _ h9 => h9) rfl dX3_yearOfPeriod_61 ?_
            refine lv_i2l hx hb dX3_yearOfPeriod_64 rfl ?_
            refine lv_lmul hx hb dX3_yearOfPeriod_65 ?_
            refine lv_iload_n hx hb dX3_yearOfPeriod_66 rfl (lv_at hl 0 rfl) ?_
            refine lv_aload_n hx hb dX3_yearOfPeriod_67 rfl (lv_at hl 1 rfl) ?_
            refine va_get (D := D) (ci := 2) (v := .ref hd) (C := RX3) (T := TX3) (N := 9) hx hb hts inX3_yearOfPeriod_X3 hown hK hP 2 rfl rfl 6 (by decide) (hts (.fieldLink RX3 41 "BondDesk$Schedule" "dates" "[I") (by decide +kernel)) (fun _ h9 => h9) rfl dX3_yearOfPeriod_68 ?_
            refine lv_iload_n hx hb dX3_yearOfPeriod_71 rfl (lv_at hl 2 rfl) ?_
            obtain ⟨c7, hf⟩ := gd_s hf
            refine va_iald hx hb hK hP 1 0 rfl rfl c7 dX3_yearOfPeriod_72 ?_
            obtain ⟨v8, hv8, hf⟩ := ob hf
            refine cSi (W.runS (As := [.int x6, .int (ds a0.toNatClampNeg)]) (rest := [.long (10000 * ((S 3).toInt64))]) ⟨hx, hb, hml, hown, hts⟩ (m_X1_daysBetween l D cI cJ cO ah x6 (ds a0.toNatClampNeg) v8 hv8) (va_cwS 2 hts gX3_yearOfPeriod_X1_daysBetween rfl rfl rfl (by decide +kernel) ⟨Nat.le_of_ble_eq_true rfl, Nat.le_of_ble_eq_true rfl⟩) ⟨pw_blind, fun U hU hW => ⟨rfl, pw_at hZ va_S.rf hP hK hU hW (Or.inr rfl) [0] rfl⟩⟩ rfl rfl hl.1 rfl (lv_room (Nat.le_of_ble_eq_true rfl)) dX3_yearOfPeriod_73 ⟨Nat.zero_le _, Nat.zero_le _⟩) ?_
            refine lv_i2l hx hb dX3_yearOfPeriod_76 rfl ?_
            refine lv_lmul hx hb dX3_yearOfPeriod_77 ?_
            exact W.lret hx hb hr (fun t ht _ => ⟨_, rfl, Option.some.inj hf, ht⟩) (fun q hq => absurd hq List.not_mem_nil) dX3_yearOfPeriod_78
          refine lv_if_ne (tgt := 48) hx hb dX3_yearOfPeriod_38 (by decide) (fun c9 => ?_) (fun c9 => ?_)
          · have hf := ie hf c9
            refine lv_aload_n hx hb dX3_yearOfPeriod_48 rfl (lv_at hl 0 rfl) ?_
            refine va_get (D := D) (ci := 2) (v := .ref hd) (C := RX3) (T := TX3) (N := 9) hx hb hts inX3_yearOfPeriod_X3 hown hK hP 2 rfl rfl 6 (by decide) (hts (.fieldLink RX3 41 "BondDesk$Schedule" "dates" "[I") (by decide +kernel)) (fun _ h9 => h9) rfl dX3_yearOfPeriod_49 ?_
            refine lv_iload_n hx hb dX3_yearOfPeriod_52 rfl (lv_at hl 1 rfl) ?_
            refine lv_iconst (v := 1) hx hb dX3_yearOfPeriod_53 (by decide) ?_
            refine lv_isub hx hb dX3_yearOfPeriod_54 ?_
            refine lv_topi (fun x10 ex10 => ?_)
            have hf := bd_s hf ex10
            obtain ⟨c11, hf⟩ := gd_s hf
            refine va_iald hx hb hK hP 1 0 rfl rfl c11 dX3_yearOfPeriod_55 ?_
            exact JK5 (ds x10.toNatClampNeg) ls (lv_sub hl [0, 1] rfl) hf
          · have hf := it hf c9
            refine lv_aload_n hx hb dX3_yearOfPeriod_41 rfl (lv_at hl 0 rfl) ?_
            refine va_get (D := D) (ci := 2) (v := .int (S 5)) (C := RX3) (T := TX3) (N := 9) hx hb hts inX3_yearOfPeriod_X3 hown hK hP 2 rfl rfl 5 (by decide) (hts (.fieldLink RX3 29 "BondDesk$Schedule" "regularBegin" "I") (by decide +kernel)) (fun _ h9 => h9) rfl dX3_yearOfPeriod_42 ?_
            refine lv_goto (tgt := 56) hx hb dX3_yearOfPeriod_45 (by decide) ?_
            exact JK5 (S 5) ls (lv_sub hl [0, 1] rfl) hf
        · have hf := ie hf c4
          refine lv_ldc2 hx hb hown (hts (.constantLong RX3 82 (3600000)) (by decide +kernel)) dX3_yearOfPeriod_33 ?_
          exact W.lret hx hb hr (fun t ht _ => ⟨_, rfl, Option.some.inj hf, ht⟩) (fun q hq => absurd hq List.not_mem_nil) dX3_yearOfPeriod_36
  · have hf := it hf c1
    refine lv_ldc2 hx hb hown (hts (.constantLong RX3 80 (3650000)) (by decide +kernel)) dX3_yearOfPeriod_8 ?_
    exact W.lret hx hb hr (fun t ht _ => ⟨_, rfl, Option.some.inj hf, ht⟩) (fun q hq => absurd hq List.not_mem_nil) dX3_yearOfPeriod_11
def f_X3_daysCounted (S : Nat → Int32) (a0 : Int32) (a1 : Int32) : Option Int64 :=
  (if (S 4) = 0 then (f_X1_daysOf30 a0 a1).bind fun v3 : Int32 => some (v3.toInt64) else (f_X1_daysBetween a0 a1).bind fun v2 : Int32 => some (v2.toInt64))
theorem inX3_daysCounted_X3 : ∀ w ∈ wsX30, w ∈ wsX3_daysCounted := by decide +kernel
set_option maxHeartbeats 4000000 in
set_option maxRecDepth 100000 in
theorem m_X3_daysCounted (l : Launch) (D : va_G) (cI cJ cO : ClassId) (ah : Nat) (hs hd : Nat) (S : Nat → Int32) (T : Nat → Int64) (n : Nat) (ds : Nat → Int32) (a0 : Int32) (a1 : Int32) (r : Int64) (hf : f_X3_daysCounted S a0 a1 = some r) : Met l yX3_daysCounted wsX3_daysCounted ({ frames := 2, cells := 0, slots := 0, locals := 45 }) (va_Pc [.ref hs, .int a0, .int a1] (pw D (ty3 cI cJ cO) (some ah) [eA cI ah, eD cI hd n ds, eS hs hd S T])) (QSl r) 0 0 (fun _ => False) := by
  refine Met.ofW (cc := cX3_daysCounted) (maxL := 3) (ret := (some .long)) (by decide) rfl ?_
  intro p e s m args below meth c s₁ Bd hml hv
  obtain ⟨rfl, hZ, hP, hK⟩ := hv
  have hx := Bd.exec
  have hb := Bd.bytes
  have hr := Bd.returns
  have hts := atoms_spec (ws := wsX3_daysCounted) Bd.pre
  have hown : s.vm.findClass RX3 = some m.cls := findClass_of_methodNamed Bd.named
  have hlocks := Bd.notSynchronized
  have hl := lv_entry ([.ref hs, .int a0, .int a1]) (n := 3) (Nat.le_of_ble_eq_true rfl)
  rw [lg_entry_eq]
  generalize (lg_sl ([.ref hs, .int a0, .int a1]) ++ List.replicate (3 - (lg_sl ([.ref hs, .int a0, .int a1])).length) Slot.unset).toArray = ls at hl ⊢
  have hl : lv_has ls 3 [(0, .ref hs), (1, .int a0), (2, .int a1)] := hl
  unfold f_X3_daysCounted at hf
  refine lv_aload_n hx hb dX3_daysCounted_0 rfl (lv_at hl 0 rfl) ?_
  refine va_get (D := D) (ci := 2) (v := .int (S 4)) (C := RX3) (T := TX3) (N := 9) hx hb hts inX3_daysCounted_X3 hown hK hP 2 rfl rfl 4 (by decide) (hts (.fieldLink RX3 22 "BondDesk$Schedule" "way" "I") (by decide +kernel)) (fun _ h9 => h9) rfl dX3_daysCounted_1 ?_
  refine lv_if_ne (tgt := 16) hx hb dX3_daysCounted_4 (by decide) (fun c1 => ?_) (fun c1 => ?_)
  · have hf := ie hf c1
    refine lv_iload_n hx hb dX3_daysCounted_16 rfl (lv_at hl 1 rfl) ?_
    refine lv_iload_n hx hb dX3_daysCounted_17 rfl (lv_at hl 2 rfl) ?_
    obtain ⟨v2, hv2, hf⟩ := ob hf
    refine cSi (W.runS (As := [.int a0, .int a1]) (rest := []) ⟨hx, hb, hml, hown, hts⟩ (m_X1_daysBetween l D cI cJ cO ah a0 a1 v2 hv2) (va_cwS 2 hts gX3_daysCounted_X1_daysBetween rfl rfl rfl (by decide +kernel) ⟨Nat.le_of_ble_eq_true rfl, Nat.le_of_ble_eq_true rfl⟩) ⟨pw_blind, fun U hU hW => ⟨rfl, pw_at hZ va_S.rf hP hK hU hW (Or.inr rfl) [0] rfl⟩⟩ rfl rfl hl.1 rfl (lv_room (Nat.le_of_ble_eq_true rfl)) dX3_daysCounted_18 ⟨Nat.zero_le _, Nat.zero_le _⟩) ?_
    refine lv_i2l hx hb dX3_daysCounted_21 rfl ?_
    exact W.lret hx hb hr (fun t ht _ => ⟨_, rfl, Option.some.inj hf, ht⟩) (fun q hq => absurd hq List.not_mem_nil) dX3_daysCounted_22
  · have hf := it hf c1
    refine lv_iload_n hx hb dX3_daysCounted_7 rfl (lv_at hl 1 rfl) ?_
    refine lv_iload_n hx hb dX3_daysCounted_8 rfl (lv_at hl 2 rfl) ?_
    obtain ⟨v3, hv3, hf⟩ := ob hf
    refine cSi (W.runS (As := [.int a0, .int a1]) (rest := []) ⟨hx, hb, hml, hown, hts⟩ (m_X1_daysOf30 l D cI cJ cO ah a0 a1 v3 hv3) (va_cwS 2 hts gX3_daysCounted_X1_daysOf30 rfl rfl rfl (by decide +kernel) ⟨Nat.le_of_ble_eq_true rfl, Nat.le_of_ble_eq_true rfl⟩) ⟨pw_blind, fun U hU hW => ⟨rfl, pw_at hZ va_S.rf hP hK hU hW (Or.inr rfl) [] rfl⟩⟩ rfl rfl hl.1 rfl (lv_room (Nat.le_of_ble_eq_true rfl)) dX3_daysCounted_9 ⟨Nat.zero_le _, Nat.zero_le _⟩) ?_
    refine lv_i2l hx hb dX3_daysCounted_12 rfl ?_
    refine lv_goto (tgt := 22) hx hb dX3_daysCounted_13 (by decide) ?_
    exact W.lret hx hb hr (fun t ht _ => ⟨_, rfl, Option.some.inj hf, ht⟩) (fun q hq => absurd hq List.not_mem_nil) dX3_daysCounted_22
def f_X3_accruedFor (N : Nat) (S : Nat → Int32) (n : Nat) (ds : Nat → Int32) (a0 : Int32) (a1 : Int64) : Option Int64 :=
  (f_X3_firstBehind N n ds a0).bind fun v1 : Int32 => (if a0 < (S 0) then some 0 else (if v1 < (nI n) then (f_X3_yearOfPeriod S n ds v1).bind fun v4 : Int64 => (if 0 < (lg_cmp v4 0) then (f_X3_beginOf S n ds v1).bind fun v6 : Int32 => (f_X3_daysCounted S v6 a0).bind fun v7 : Int64 => gd (¬ v4 = 0) (some (((a1 * ((S 2).toInt64)) * v7) / v4)) else some 0) else some 0))
theorem inX3_accruedFor_X3 : ∀ w ∈ wsX30, w ∈ wsX3_accruedFor := by decide +kernel
set_option maxHeartbeats 4000000 in
set_option maxRecDepth 100000 in
theorem m_X3_accruedFor (l : Launch) (D : va_G) (cI cJ cO : ClassId) (ah : Nat) (hs hd : Nat) (S : Nat → Int32) (T : Nat → Int64) (n : Nat) (ds : Nat → Int32) (a0 : Int32) (a1 : Int64) (N : Nat) (r : Int64) (hf : f_X3_accruedFor N S n ds a0 a1 = some r) : Met l yX3_accruedFor wsX3_accruedFor ({ frames := 3, cells := 0, slots := 0, locals := 67 }) (va_Pc [.ref hs, .int a0, .long a1] (pw D (ty3 cI cJ cO) (some ah) [eA cI ah, eD cI hd n ds, eS hs hd S T])) (QSl r) 0 0 (fun _ => False) := by
  refine Met.ofW (cc := cX3_accruedFor) (maxL := 7) (ret := (some .long)) (by decide) rfl ?_
  intro p e s m args below meth c s₁ Bd hml hv
  obtain ⟨rfl, hZ, hP, hK⟩ := hv
  have hx := Bd.exec
  have hb := Bd.bytes
  have hr := Bd.returns
  have hts := atoms_spec (ws := wsX3_accruedFor) Bd.pre
  have hown : s.vm.findClass RX3 = some m.cls := findClass_of_methodNamed Bd.named
  have hlocks := Bd.notSynchronized
  have hl := lv_entry ([.ref hs, .int a0, .long a1]) (n := 7) (Nat.le_of_ble_eq_true rfl)
  rw [lg_entry_eq]
  generalize (lg_sl ([.ref hs, .int a0, .long a1]) ++ List.replicate (7 - (lg_sl ([.ref hs, .int a0, .long a1])).length) Slot.unset).toArray = ls at hl ⊢
  have hl : lv_has ls 7 [(0, .ref hs), (1, .int a0), (2, .long a1)] := hl
  unfold f_X3_accruedFor at hf
  refine lv_aload_n hx hb dX3_accruedFor_0 rfl (lv_at hl 0 rfl) ?_
  refine lv_iload_n hx hb dX3_accruedFor_1 rfl (lv_at hl 1 rfl) ?_
  obtain ⟨v1, hv1, hf⟩ := ob hf
  refine cSi (W.runV (As := [.int a0]) (rest := []) ⟨hx, hb, hml, hown, hts⟩ (m_X3_firstBehind l D cI cJ cO ah hs hd S T n ds a0 N v1 hv1) (cwV 1 hts gX3_accruedFor_X3_firstBehind rfl rfl rfl (by decide +kernel) ⟨Nat.le_of_ble_eq_true rfl, Nat.le_of_ble_eq_true rfl⟩) ⟨pw_blind, va_recv hK hP (ci := 2) (q0 := 2) rfl rfl, fun U hU hW => ⟨rfl, pw_at hZ va_S.rf hP hK hU hW (Or.inr rfl) [0, 1, 2] rfl⟩⟩ rfl rfl hl.1 rfl (lv_room (Nat.le_of_ble_eq_true rfl)) dX3_accruedFor_2 ⟨Nat.zero_le _, Nat.zero_le _⟩) ?_
  refine lv_istore (lv' := [(4, .int v1), (0, .ref hs), (1, .int a0), (2, .long a1)]) hx hb dX3_accruedFor_5 hl (by decide) rfl (fun ls hl => ?_)
  refine lv_iload_n hx hb dX3_accruedFor_7 rfl (lv_at hl 2 rfl) ?_
  refine lv_aload_n hx hb dX3_accruedFor_8 rfl (lv_at hl 1 rfl) ?_
  refine va_get (D := D) (ci := 2) (v := .int (S 0)) (C := RX3) (T := TX3) (N := 9) hx hb hts inX3_accruedFor_X3 hown hK hP 2 rfl rfl 0 (by decide) (hts (.fieldLink RX3 7 "BondDesk$Schedule" "issue" "I") (by decide +kernel)) (fun _ h9 => h9) rfl dX3_accruedFor_9 ?_
  refine lv_icmp_lt (tgt := 25) hx hb dX3_accruedFor_12 (by decide) (fun c2 => ?_) (fun c2 => ?_)
  · have hf := it hf c2
    refine lv_lconst (v := 0) hx hb dX3_accruedFor_25 (by decide) ?_
    exact W.lret hx hb hr (fun t ht _ => ⟨_, rfl, Option.some.inj hf, ht⟩) (fun q hq => absurd hq List.not_mem_nil) dX3_accruedFor_26
  · have hf := ie hf c2
    refine lv_iload hx hb dX3_accruedFor_15 (lv_at hl 0 rfl) ?_
    refine lv_aload_n hx hb dX3_accruedFor_17 rfl (lv_at hl 1 rfl) ?_
    refine va_get (D := D) (ci := 2) (v := .ref hd) (C := RX3) (T := TX3) (N := 9) hx hb hts inX3_accruedFor_X3 hown hK hP 2 rfl rfl 6 (by decide) (hts (.fieldLink RX3 41 "BondDesk$Schedule" "dates" "[I") (by decide +kernel)) (fun _ h9 => h9) rfl dX3_accruedFor_18 ?_
    refine va_alen (v := (nI n)) hx hb hK hP 1 0 rfl rfl rfl dX3_accruedFor_21 ?_
    refine lv_icmp_lt (tgt := 27) hx hb dX3_accruedFor_22 (by decide) (fun c3 => ?_) (fun c3 => ?_)
    · have hf := it hf c3
      refine lv_aload_n hx hb dX3_accruedFor_27 rfl (lv_at hl 1 rfl) ?_
      refine lv_iload hx hb dX3_accruedFor_28 (lv_at hl 0 rfl) ?_
      obtain ⟨v4, hv4, hf⟩ := ob hf
      refine cSl (W.runV (As := [.int v1]) (rest := []) ⟨hx, hb, hml, hown, hts⟩ (m_X3_yearOfPeriod l D cI cJ cO ah hs hd S T n ds v1 v4 hv4) (cwV 1 hts gX3_accruedFor_X3_yearOfPeriod rfl rfl rfl (by decide +kernel) ⟨Nat.le_of_ble_eq_true rfl, Nat.le_of_ble_eq_true rfl⟩) ⟨pw_blind, va_recv hK hP (ci := 2) (q0 := 2) rfl rfl, fun U hU hW => ⟨rfl, pw_at hZ va_S.rf hP hK hU hW (Or.inr rfl) [0, 1, 2] rfl⟩⟩ rfl rfl hl.1 rfl (lv_room (Nat.le_of_ble_eq_true rfl)) dX3_accruedFor_30 ⟨Nat.zero_le _, Nat.zero_le _⟩) ?_
      refine lv_lstore (lv' := [(5, .long v4), (4, .int v1), (0, .ref hs), (1, .int a0), (2, .long a1)]) hx hb dX3_accruedFor_33 hl (by decide) rfl (fun ls hl => ?_)
      refine lv_lload hx hb dX3_accruedFor_35 (lv_at hl 0 rfl) ?_
      refine lv_lconst (v := 0) hx hb dX3_accruedFor_37 (by decide) ?_
      refine W.lcmp hx hb dX3_accruedFor_38 ?_
      refine lv_if_gt (tgt := 46) hx hb dX3_accruedFor_39 (by decide) (fun c5 => ?_) (fun c5 => ?_)
      · have hf := it hf c5
        refine lv_lload_n hx hb dX3_accruedFor_46 rfl (lv_at hl 4 rfl) ?_
        refine lv_aload_n hx hb dX3_accruedFor_47 rfl (lv_at hl 2 rfl) ?_
        refine va_get (D := D) (ci := 2) (v := .int (S 2)) (C := RX3) (T := TX3) (N := 9) hx hb hts inX3_accruedFor_X3 hown hK hP 2 rfl rfl 2 (by decide) (hts (.fieldLink RX3 16 "BondDesk$Schedule" "rate" "I") (by decide +kernel)) (fun _ h9 => h9) rfl dX3_accruedFor_48 ?_
        refine lv_i2l hx hb dX3_accruedFor_51 rfl ?_
        refine lv_lmul hx hb dX3_accruedFor_52 ?_
        refine lv_aload_n hx hb dX3_accruedFor_53 rfl (lv_at hl 2 rfl) ?_
        refine lv_aload_n hx hb dX3_accruedFor_54 rfl (lv_at hl 2 rfl) ?_
        refine lv_iload hx hb dX3_accruedFor_55 (lv_at hl 1 rfl) ?_
        obtain ⟨v6, hv6, hf⟩ := ob hf
        refine cSi (W.runV (As := [.int v1]) (rest := [.ref hs, .long (a1 * ((S 2).toInt64))]) ⟨hx, hb, hml, hown, hts⟩ (m_X3_beginOf l D cI cJ cO ah hs hd S T n ds v1 v6 hv6) (cwV 1 hts gX3_accruedFor_X3_beginOf rfl rfl rfl (by decide +kernel) ⟨Nat.le_of_ble_eq_true rfl, Nat.le_of_ble_eq_true rfl⟩) ⟨pw_blind, va_recv hK hP (ci := 2) (q0 := 2) rfl rfl, fun U hU hW => ⟨rfl, pw_at hZ va_S.rf hP hK hU hW (Or.inr rfl) [0, 1, 2] rfl⟩⟩ rfl rfl hl.1 rfl (lv_room (Nat.le_of_ble_eq_true rfl)) dX3_accruedFor_57 ⟨Nat.zero_le _, Nat.zero_le _⟩) ?_
        refine lv_iload_n hx hb dX3_accruedFor_60 rfl (lv_at hl 3 rfl) ?_
        obtain ⟨v7, hv7, hf⟩ := ob hf
        refine cSl (W.runV (As := [.int v6, .int a0]) (rest := [.long (a1 * ((S 2).toInt64))]) ⟨hx, hb, hml, hown, hts⟩ (m_X3_daysCounted l D cI cJ cO ah hs hd S T n ds v6 a0 v7 hv7) (cwV 2 hts gX3_accruedFor_X3_daysCounted rfl rfl rfl (by decide +kernel) ⟨Nat.le_of_ble_eq_true rfl, Nat.le_of_ble_eq_true rfl⟩) ⟨pw_blind, va_recv hK hP (ci := 2) (q0 := 2) rfl rfl, fun U hU hW => ⟨rfl, pw_at hZ va_S.rf hP hK hU hW (Or.inr rfl) [0, 1, 2] rfl⟩⟩ rfl rfl hl.1 rfl (lv_room (Nat.le_of_ble_eq_true rfl)) dX3_accruedFor_61 ⟨Nat.zero_le _, Nat.zero_le _⟩) ?_
        refine lv_lmul hx hb dX3_accruedFor_64 ?_
        refine lv_lload hx hb dX3_accruedFor_65 (lv_at hl 0 rfl) ?_
        obtain ⟨c8, hf⟩ := gd_s hf
        refine lv_ldiv hx hb dX3_accruedFor_67 c8 ?_
        exact W.lret hx hb hr (fun t ht _ => ⟨_, rfl, Option.some.inj hf, ht⟩) (fun q hq => absurd hq List.not_mem_nil) dX3_accruedFor_68
      · have hf := ie hf c5
        refine lv_lconst (v := 0) hx hb dX3_accruedFor_42 (by decide) ?_
        refine lv_goto (tgt := 68) hx hb dX3_accruedFor_43 (by decide) ?_
        exact W.lret hx hb hr (fun t ht _ => ⟨_, rfl, Option.some.inj hf, ht⟩) (fun q hq => absurd hq List.not_mem_nil) dX3_accruedFor_68
    · have hf := ie hf c3
      refine lv_lconst (v := 0) hx hb dX3_accruedFor_25 (by decide) ?_
      exact W.lret hx hb hr (fun t ht _ => ⟨_, rfl, Option.some.inj hf, ht⟩) (fun q hq => absurd hq List.not_mem_nil) dX3_accruedFor_26
def f_X0_isGone (B : Nat → Int32) : Option Int32 :=
  (if (B 2) = 0 then some 0 else some 1)
theorem inX0_isGone_X0 : ∀ w ∈ wsX00, w ∈ wsX0_isGone := by decide +kernel
set_option maxHeartbeats 4000000 in
set_option maxRecDepth 100000 in
theorem m_X0_isGone (l : Launch) (D : va_G) (cI cJ cO : ClassId) (ah : Nat) (ht hs hd : Nat) (B : Nat → Int32) (S : Nat → Int32) (T : Nat → Int64) (n : Nat) (ds : Nat → Int32) (r : Int32) (hf : f_X0_isGone B = some r) : Met l yX0_isGone wsX0_isGone ({ frames := 0, cells := 0, slots := 0, locals := 0 }) (va_Pc [.ref ht] (pw D (ty3 cI cJ cO) (some ah) [eA cI ah, eD cI hd n ds, eS hs hd S T, eB ht hs B])) (QSz r) 0 0 (fun _ => False) := by
  refine Met.ofW (cc := cX0_isGone) (maxL := 1) (ret := (some .boolean)) (by decide) rfl ?_
  intro p e s m args below meth c s₁ Bd hml hv
  obtain ⟨rfl, hZ, hP, hK⟩ := hv
  have hx := Bd.exec
  have hb := Bd.bytes
  have hr := Bd.returns
  have hts := atoms_spec (ws := wsX0_isGone) Bd.pre
  have hown : s.vm.findClass RX0 = some m.cls := findClass_of_methodNamed Bd.named
  have hlocks := Bd.notSynchronized
  have hl := lv_entry ([.ref ht]) (n := 1) (Nat.le_of_ble_eq_true rfl)
  rw [lg_entry_eq]
  generalize (lg_sl ([.ref ht]) ++ List.replicate (1 - (lg_sl ([.ref ht])).length) Slot.unset).toArray = ls at hl ⊢
  have hl : lv_has ls 1 [(0, .ref ht)] := hl
  unfold f_X0_isGone at hf
  refine lv_aload_n hx hb dX0_isGone_0 rfl (lv_at hl 0 rfl) ?_
  refine va_get (D := D) (ci := 0) (v := .int (B 2)) (C := RX0) (T := TX0) (N := 9) hx hb hts inX0_isGone_X0 hown hK hP 3 rfl rfl 2 (by decide) (hts (.fieldLink RX0 28 "BondDesk$Bond" "state" "I") (by decide +kernel)) (fun _ h9 => h9) rfl dX0_isGone_1 ?_
  refine lv_if_eq (tgt := 11) hx hb dX0_isGone_4 (by decide) (fun c1 => ?_) (fun c1 => ?_)
  · have hf := it hf c1
    refine lv_iconst (v := 0) hx hb dX0_isGone_11 (by decide) ?_
    exact W.zret hx hb hr (zn (Or.inl rfl)) (fun t ht _ => ⟨_, rfl, ⟨Option.some.inj hf, (Or.inl rfl)⟩, ht⟩) (fun q hq => absurd hq List.not_mem_nil) dX0_isGone_12
  · have hf := ie hf c1
    refine lv_iconst (v := 1) hx hb dX0_isGone_7 (by decide) ?_
    refine lv_goto (tgt := 12) hx hb dX0_isGone_8 (by decide) ?_
    exact W.zret hx hb hr (zn (Or.inr rfl)) (fun t ht _ => ⟨_, rfl, ⟨Option.some.inj hf, (Or.inr rfl)⟩, ht⟩) (fun q hq => absurd hq List.not_mem_nil) dX0_isGone_12
def f_X0_isIssued (S : Nat → Int32) (a0 : Int32) : Option Int32 :=
  (if a0 < (S 0) then some 0 else some 1)
theorem inX0_isIssued_X0 : ∀ w ∈ wsX00, w ∈ wsX0_isIssued := by decide +kernel
theorem inX0_isIssued_X3 : ∀ w ∈ wsX30, w ∈ wsX0_isIssued := by decide +kernel
set_option maxHeartbeats 4000000 in
set_option maxRecDepth 100000 in
theorem m_X0_isIssued (l : Launch) (D : va_G) (cI cJ cO : ClassId) (ah : Nat) (ht hs hd : Nat) (B : Nat → Int32) (S : Nat → Int32) (T : Nat → Int64) (n : Nat) (ds : Nat → Int32) (a0 : Int32) (r : Int32) (hf : f_X0_isIssued S a0 = some r) : Met l yX0_isIssued wsX0_isIssued ({ frames := 0, cells := 0, slots := 0, locals := 0 }) (va_Pc [.ref ht, .int a0] (pw D (ty3 cI cJ cO) (some ah) [eA cI ah, eD cI hd n ds, eS hs hd S T, eB ht hs B])) (QSz r) 0 0 (fun _ => False) := by
  refine Met.ofW (cc := cX0_isIssued) (maxL := 2) (ret := (some .boolean)) (by decide) rfl ?_
  intro p e s m args below meth c s₁ Bd hml hv
  obtain ⟨rfl, hZ, hP, hK⟩ := hv
  have hx := Bd.exec
  have hb := Bd.bytes
  have hr := Bd.returns
  have hts := atoms_spec (ws := wsX0_isIssued) Bd.pre
  have hown : s.vm.findClass RX0 = some m.cls := findClass_of_methodNamed Bd.named
  have hlocks := Bd.notSynchronized
  have hl := lv_entry ([.ref ht, .int a0]) (n := 2) (Nat.le_of_ble_eq_true rfl)
  rw [lg_entry_eq]
  generalize (lg_sl ([.ref ht, .int a0]) ++ List.replicate (2 - (lg_sl ([.ref ht, .int a0])).length) Slot.unset).toArray = ls at hl ⊢
  have hl : lv_has ls 2 [(0, .ref ht), (1, .int a0)] := hl
  unfold f_X0_isIssued at hf
  refine lv_aload_n hx hb dX0_isIssued_0 rfl (lv_at hl 0 rfl) ?_
  refine va_get (D := D) (ci := 0) (v := .ref hs) (C := RX0) (T := TX0) (N := 9) hx hb hts inX0_isIssued_X0 hown hK hP 3 rfl rfl 0 (by decide) (hts (.fieldLink RX0 9 "BondDesk$Bond" "schedule" "LBondDesk$Schedule;") (by decide +kernel)) (fun _ h9 => h9) rfl dX0_isIssued_1 ?_
  refine va_get (D := D) (ci := 2) (v := .int (S 0)) (C := RX3) (T := TX3) (N := 9) hx hb hts inX0_isIssued_X3 hown hK hP 2 rfl rfl 0 (by decide) (hts (.fieldLink RX0 31 "BondDesk$Schedule" "issue" "I") (by decide +kernel)) (fun _ h9 => h9) rfl dX0_isIssued_4 ?_
  refine lv_iload_n hx hb dX0_isIssued_7 rfl (lv_at hl 1 rfl) ?_
  refine lv_icmp_gt (tgt := 15) hx hb dX0_isIssued_8 (by decide) (fun c1 => ?_) (fun c1 => ?_)
  · have hf := it hf c1
    refine lv_iconst (v := 0) hx hb dX0_isIssued_15 (by decide) ?_
    exact W.zret hx hb hr (zn (Or.inl rfl)) (fun t ht _ => ⟨_, rfl, ⟨Option.some.inj hf, (Or.inl rfl)⟩, ht⟩) (fun q hq => absurd hq List.not_mem_nil) dX0_isIssued_16
  · have hf := ie hf c1
    refine lv_iconst (v := 1) hx hb dX0_isIssued_11 (by decide) ?_
    refine lv_goto (tgt := 16) hx hb dX0_isIssued_12 (by decide) ?_
    exact W.zret hx hb hr (zn (Or.inr rfl)) (fun t ht _ => ⟨_, rfl, ⟨Option.some.inj hf, (Or.inr rfl)⟩, ht⟩) (fun q hq => absurd hq List.not_mem_nil) dX0_isIssued_16
def f_X0_isRung (S : Nat → Int32) (B : Nat → Int32) (a0 : Int32) (a1 : Int32) : Option Int32 :=
  (f_X0_isGone B).bind fun v1 : Int32 => (if v1 = 0 then (f_X0_isIssued S a1).bind fun v3 : Int32 => (if v3 = 0 then some 0 else (if (S 1) ≤ a1 then some 0 else (f_X1_yearOf (S 1)).bind fun v6 : Int32 => (if v6 = a0 then some 1 else some 0))) else some 0)
theorem inX0_isRung_X0 : ∀ w ∈ wsX00, w ∈ wsX0_isRung := by decide +kernel
theorem inX0_isRung_X3 : ∀ w ∈ wsX30, w ∈ wsX0_isRung := by decide +kernel
set_option maxHeartbeats 4000000 in
set_option maxRecDepth 100000 in
theorem m_X0_isRung (l : Launch) (D : va_G) (cI cJ cO : ClassId) (ah : Nat) (ht hs hd : Nat) (B : Nat → Int32) (S : Nat → Int32) (T : Nat → Int64) (n : Nat) (ds : Nat → Int32) (a0 : Int32) (a1 : Int32) (r : Int32) (hf : f_X0_isRung S B a0 a1 = some r) : Met l yX0_isRung wsX0_isRung ({ frames := 1, cells := 0, slots := 0, locals := 21 }) (va_Pc [.ref ht, .int a0, .int a1] (pw D (ty3 cI cJ cO) (some ah) [eA cI ah, eD cI hd n ds, eS hs hd S T, eB ht hs B])) (QSz r) 0 0 (fun _ => False) := by
  refine Met.ofW (cc := cX0_isRung) (maxL := 3) (ret := (some .boolean)) (by decide) rfl ?_
  intro p e s m args below meth c s₁ Bd hml hv
  obtain ⟨rfl, hZ, hP, hK⟩ := hv
  have hx := Bd.exec
  have hb := Bd.bytes
  have hr := Bd.returns
  have hts := atoms_spec (ws := wsX0_isRung) Bd.pre
  have hown : s.vm.findClass RX0 = some m.cls := findClass_of_methodNamed Bd.named
  have hlocks := Bd.notSynchronized
  have hl := lv_entry ([.ref ht, .int a0, .int a1]) (n := 3) (Nat.le_of_ble_eq_true rfl)
  rw [lg_entry_eq]
  generalize (lg_sl ([.ref ht, .int a0, .int a1]) ++ List.replicate (3 - (lg_sl ([.ref ht, .int a0, .int a1])).length) Slot.unset).toArray = ls at hl ⊢
  have hl : lv_has ls 3 [(0, .ref ht), (1, .int a0), (2, .int a1)] := hl
  unfold f_X0_isRung at hf
  refine lv_aload_n hx hb dX0_isRung_0 rfl (lv_at hl 0 rfl) ?_
  obtain ⟨v1, hv1, hf⟩ := ob hf
  refine cSz (W.runV (As := []) (rest := []) ⟨hx, hb, hml, hown, hts⟩ (m_X0_isGone l D cI cJ cO ah ht hs hd B S T n ds v1 hv1) (cwV 0 hts gX0_isRung_X0_isGone rfl rfl rfl (by decide +kernel) ⟨Nat.le_of_ble_eq_true rfl, Nat.le_of_ble_eq_true rfl⟩) ⟨pw_blind, va_recv hK hP (ci := 0) (q0 := 3) rfl rfl, fun U hU hW => ⟨rfl, pw_at hZ va_S.rf hP hK hU hW (Or.inr rfl) [0, 1, 2, 3] rfl⟩⟩ rfl rfl hl.1 rfl (lv_room (Nat.le_of_ble_eq_true rfl)) dX0_isRung_1 ⟨Nat.zero_le _, Nat.zero_le _⟩) (fun zv1 => ?_)
  refine lv_if_ne (tgt := 44) hx hb dX0_isRung_4 (by decide) (fun c2 => ?_) (fun c2 => ?_)
  · have hf := ie hf c2
    refine lv_iconst (v := 0) hx hb dX0_isRung_44 (by decide) ?_
    exact W.zret hx hb hr (zn (Or.inl rfl)) (fun t ht _ => ⟨_, rfl, ⟨Option.some.inj hf, (Or.inl rfl)⟩, ht⟩) (fun q hq => absurd hq List.not_mem_nil) dX0_isRung_45
  · have hf := it hf c2
    refine lv_aload_n hx hb dX0_isRung_7 rfl (lv_at hl 0 rfl) ?_
    refine lv_iload_n hx hb dX0_isRung_8 rfl (lv_at hl 2 rfl) ?_
    obtain ⟨v3, hv3, hf⟩ := ob hf
    refine cSz (W.runV (As := [.int a1]) (rest := []) ⟨hx, hb, hml, hown, hts⟩ (m_X0_isIssued l D cI cJ cO ah ht hs hd B S T n ds a1 v3 hv3) (cwV 1 hts gX0_isRung_X0_isIssued rfl rfl rfl (by decide +kernel) ⟨Nat.le_of_ble_eq_true rfl, Nat.le_of_ble_eq_true rfl⟩) ⟨pw_blind, va_recv hK hP (ci := 0) (q0 := 3) rfl rfl, fun U hU hW => ⟨rfl, pw_at hZ va_S.rf hP hK hU hW (Or.inr rfl) [0, 1, 2, 3] rfl⟩⟩ rfl rfl hl.1 rfl (lv_room (Nat.le_of_ble_eq_true rfl)) dX0_isRung_9 ⟨Nat.zero_le _, Nat.zero_le _⟩) (fun zv3 => ?_)
    refine lv_if_eq (tgt := 44) hx hb dX0_isRung_12 (by decide) (fun c4 => ?_) (fun c4 => ?_)
    · have hf := it hf c4
      refine lv_iconst (v := 0) hx hb dX0_isRung_44 (by decide) ?_
      exact W.zret hx hb hr (zn (Or.inl rfl)) (fun t ht _ => ⟨_, rfl, ⟨Option.some.inj hf, (Or.inl rfl)⟩, ht⟩) (fun q hq => absurd hq List.not_mem_nil) dX0_isRung_45
    · have hf := ie hf c4
      refine lv_aload_n hx hb dX0_isRung_15 rfl (lv_at hl 0 rfl) ?_
      refine va_get (D := D) (ci := 0) (v := .ref hs) (C := RX0) (T := TX0) (N := 9) hx hb hts inX0_isRung_X0 hown hK hP 3 rfl rfl 0 (by decide) (hts (.fieldLink RX0 9 "BondDesk$Bond" "schedule" "LBondDesk$Schedule;") (by decide +kernel)) (fun _ h9 => h9) rfl dX0_isRung_16 ?_
      refine va_get (D := D) (ci := 2) (v := .int (S 1)) (C := RX3) (T := TX3) (N := 9) hx hb hts inX0_isRung_X3 hown hK hP 2 rfl rfl 1 (by decide) (hts (.fieldLink RX0 42 "BondDesk$Schedule" "end" "I") (by decide +kernel)) (fun _ h9 => h9) rfl dX0_isRung_19 ?_
      refine lv_iload_n hx hb dX0_isRung_22 rfl (lv_at hl 2 rfl) ?_
      refine lv_icmp_le (tgt := 44) hx hb dX0_isRung_23 (by decide) (fun c5 => ?_) (fun c5 => ?_)
      · have hf := it hf c5
        refine lv_iconst (v := 0) hx hb dX0_isRung_44 (by decide) ?_
        exact W.zret hx hb hr (zn (Or.inl rfl)) (fun t ht _ => ⟨_, rfl, ⟨Option.some.inj hf, (Or.inl rfl)⟩, ht⟩) (fun q hq => absurd hq List.not_mem_nil) dX0_isRung_45
      · have hf := ie hf c5
        refine lv_aload_n hx hb dX0_isRung_26 rfl (lv_at hl 0 rfl) ?_
        refine va_get (D := D) (ci := 0) (v := .ref hs) (C := RX0) (T := TX0) (N := 9) hx hb hts inX0_isRung_X0 hown hK hP 3 rfl rfl 0 (by decide) (hts (.fieldLink RX0 9 "BondDesk$Bond" "schedule" "LBondDesk$Schedule;") (by decide +kernel)) (fun _ h9 => h9) rfl dX0_isRung_27 ?_
        refine va_get (D := D) (ci := 2) (v := .int (S 1)) (C := RX3) (T := TX3) (N := 9) hx hb hts inX0_isRung_X3 hown hK hP 2 rfl rfl 1 (by decide) (hts (.fieldLink RX0 42 "BondDesk$Schedule" "end" "I") (by decide +kernel)) (fun _ h9 => h9) rfl dX0_isRung_30 ?_
        obtain ⟨v6, hv6, hf⟩ := ob hf
        refine cSi (W.runS (As := [.int (S 1)]) (rest := []) ⟨hx, hb, hml, hown, hts⟩ (m_X1_yearOf l D cI cJ cO ah (S 1) v6 hv6) (va_cwS 1 hts gX0_isRung_X1_yearOf rfl rfl rfl (by decide +kernel) ⟨Nat.le_of_ble_eq_true rfl, Nat.le_of_ble_eq_true rfl⟩) ⟨pw_blind, fun U hU hW => ⟨rfl, pw_at hZ va_S.rf hP hK hU hW (Or.inr rfl) [] rfl⟩⟩ rfl rfl hl.1 rfl (lv_room (Nat.le_of_ble_eq_true rfl)) dX0_isRung_33 ⟨Nat.zero_le _, Nat.zero_le _⟩) ?_
        refine lv_iload_n hx hb dX0_isRung_36 rfl (lv_at hl 1 rfl) ?_
        refine lv_icmp_ne (tgt := 44) hx hb dX0_isRung_37 (by decide) (fun c7 => ?_) (fun c7 => ?_)
        · have hf := ie hf c7
          refine lv_iconst (v := 0) hx hb dX0_isRung_44 (by decide) ?_
          exact W.zret hx hb hr (zn (Or.inl rfl)) (fun t ht _ => ⟨_, rfl, ⟨Option.some.inj hf, (Or.inl rfl)⟩, ht⟩) (fun q hq => absurd hq List.not_mem_nil) dX0_isRung_45
        · have hf := it hf c7
          refine lv_iconst (v := 1) hx hb dX0_isRung_40 (by decide) ?_
          refine lv_goto (tgt := 45) hx hb dX0_isRung_41 (by decide) ?_
          exact W.zret hx hb hr (zn (Or.inr rfl)) (fun t ht _ => ⟨_, rfl, ⟨Option.some.inj hf, (Or.inr rfl)⟩, ht⟩) (fun q hq => absurd hq List.not_mem_nil) dX0_isRung_45
def f_X0_faceOf (a0 : Int32) : Option Int64 :=
  some ((100000 * (a0.toInt64)) / 10000)
set_option maxHeartbeats 4000000 in
set_option maxRecDepth 100000 in
theorem m_X0_faceOf (l : Launch) (D : va_G) (cI cJ cO : ClassId) (ah : Nat)  (a0 : Int32) (r : Int64) (hf : f_X0_faceOf a0 = some r) : Met l yX0_faceOf wsX0_faceOf ({ frames := 0, cells := 0, slots := 0, locals := 0 }) (va_Pc [.int a0] (pw D (ty3 cI cJ cO) (some ah) [])) (QSl r) 0 0 (fun _ => False) := by
  refine Met.ofW (cc := cX0_faceOf) (maxL := 1) (ret := (some .long)) (by decide) rfl ?_
  intro p e s m args below meth c s₁ Bd hml hv
  obtain ⟨rfl, hZ, hP, hK⟩ := hv
  have hx := Bd.exec
  have hb := Bd.bytes
  have hr := Bd.returns
  have hts := atoms_spec (ws := wsX0_faceOf) Bd.pre
  have hown : s.vm.findClass RX0 = some m.cls := findClass_of_methodNamed Bd.named
  have hlocks := Bd.notSynchronized
  have hl := lv_entry ([.int a0]) (n := 1) (Nat.le_of_ble_eq_true rfl)
  rw [lg_entry_eq]
  generalize (lg_sl ([.int a0]) ++ List.replicate (1 - (lg_sl ([.int a0])).length) Slot.unset).toArray = ls at hl ⊢
  have hl : lv_has ls 1 [(0, .int a0)] := hl
  unfold f_X0_faceOf at hf
  refine lv_ldc2 hx hb hown (hts (.constantLong RX0 50 (100000)) (by decide +kernel)) dX0_faceOf_0 ?_
  refine lv_iload_n hx hb dX0_faceOf_3 rfl (lv_at hl 0 rfl) ?_
  refine lv_i2l hx hb dX0_faceOf_4 rfl ?_
  refine lv_lmul hx hb dX0_faceOf_5 ?_
  refine lv_ldc2 hx hb hown (hts (.constantLong RX0 52 (10000)) (by decide +kernel)) dX0_faceOf_6 ?_
  refine lv_ldiv hx hb dX0_faceOf_9 (by decide) ?_
  exact W.lret hx hb hr (fun t ht _ => ⟨_, rfl, Option.some.inj hf, ht⟩) (fun q hq => absurd hq List.not_mem_nil) dX0_faceOf_10
def f_X0_face (B : Nat → Int32) : Option Int64 :=
  (f_X0_faceOf (B 1)).bind fun v1 : Int64 => some v1
theorem inX0_face_X0 : ∀ w ∈ wsX00, w ∈ wsX0_face := by decide +kernel
set_option maxHeartbeats 4000000 in
set_option maxRecDepth 100000 in
theorem m_X0_face (l : Launch) (D : va_G) (cI cJ cO : ClassId) (ah : Nat) (ht hs hd : Nat) (B : Nat → Int32) (S : Nat → Int32) (T : Nat → Int64) (n : Nat) (ds : Nat → Int32) (r : Int64) (hf : f_X0_face B = some r) : Met l yX0_face wsX0_face ({ frames := 1, cells := 0, slots := 0, locals := 20 }) (va_Pc [.ref ht] (pw D (ty3 cI cJ cO) (some ah) [eA cI ah, eD cI hd n ds, eS hs hd S T, eB ht hs B])) (QSl r) 0 0 (fun _ => False) := by
  refine Met.ofW (cc := cX0_face) (maxL := 1) (ret := (some .long)) (by decide) rfl ?_
  intro p e s m args below meth c s₁ Bd hml hv
  obtain ⟨rfl, hZ, hP, hK⟩ := hv
  have hx := Bd.exec
  have hb := Bd.bytes
  have hr := Bd.returns
  have hts := atoms_spec (ws := wsX0_face) Bd.pre
  have hown : s.vm.findClass RX0 = some m.cls := findClass_of_methodNamed Bd.named
  have hlocks := Bd.notSynchronized
  have hl := lv_entry ([.ref ht]) (n := 1) (Nat.le_of_ble_eq_true rfl)
  rw [lg_entry_eq]
  generalize (lg_sl ([.ref ht]) ++ List.replicate (1 - (lg_sl ([.ref ht])).length) Slot.unset).toArray = ls at hl ⊢
  have hl : lv_has ls 1 [(0, .ref ht)] := hl
  unfold f_X0_face at hf
  refine lv_aload_n hx hb dX0_face_0 rfl (lv_at hl 0 rfl) ?_
  refine va_get (D := D) (ci := 0) (v := .int (B 1)) (C := RX0) (T := TX0) (N := 9) hx hb hts inX0_face_X0 hown hK hP 3 rfl rfl 1 (by decide) (hts (.fieldLink RX0 15 "BondDesk$Bond" "factor" "I") (by decide +kernel)) (fun _ h9 => h9) rfl dX0_face_1 ?_
  obtain ⟨v1, hv1, hf⟩ := ob hf
  refine cSl (W.runS (As := [.int (B 1)]) (rest := []) ⟨hx, hb, hml, hown, hts⟩ (m_X0_faceOf l D cI cJ cO ah (B 1) v1 hv1) (va_cwS 1 hts gX0_face_X0_faceOf rfl rfl rfl (by decide +kernel) ⟨Nat.le_of_ble_eq_true rfl, Nat.le_of_ble_eq_true rfl⟩) ⟨pw_blind, fun U hU hW => ⟨rfl, pw_at hZ va_S.rf hP hK hU hW (Or.inr rfl) [] rfl⟩⟩ rfl rfl hl.1 rfl (lv_room (Nat.le_of_ble_eq_true rfl)) dX0_face_4 ⟨Nat.zero_le _, Nat.zero_le _⟩) ?_
  exact W.lret hx hb hr (fun t ht _ => ⟨_, rfl, Option.some.inj hf, ht⟩) (fun q hq => absurd hq List.not_mem_nil) dX0_face_7
def f_X0_accruedOn (N : Nat) (S : Nat → Int32) (n : Nat) (ds : Nat → Int32) (B : Nat → Int32) (a0 : Int32) : Option Int64 :=
  (f_X0_isGone B).bind fun v1 : Int32 => (if v1 = 0 then (f_X0_face B).bind fun v3 : Int64 => (f_X3_accruedFor N S n ds a0 v3).bind fun v4 : Int64 => some v4 else some 0)
theorem inX0_accruedOn_X0 : ∀ w ∈ wsX00, w ∈ wsX0_accruedOn := by decide +kernel
set_option maxHeartbeats 4000000 in
set_option maxRecDepth 100000 in
theorem m_X0_accruedOn (l : Launch) (D : va_G) (cI cJ cO : ClassId) (ah : Nat) (ht hs hd : Nat) (B : Nat → Int32) (S : Nat → Int32) (T : Nat → Int64) (n : Nat) (ds : Nat → Int32) (a0 : Int32) (N : Nat) (r : Int64) (hf : f_X0_accruedOn N S n ds B a0 = some r) : Met l yX0_accruedOn wsX0_accruedOn ({ frames := 4, cells := 0, slots := 0, locals := 93 }) (va_Pc [.ref ht, .int a0] (pw D (ty3 cI cJ cO) (some ah) [eA cI ah, eD cI hd n ds, eS hs hd S T, eB ht hs B])) (QSl r) 0 0 (fun _ => False) := by
  refine Met.ofW (cc := cX0_accruedOn) (maxL := 2) (ret := (some .long)) (by decide) rfl ?_
  intro p e s m args below meth c s₁ Bd hml hv
  obtain ⟨rfl, hZ, hP, hK⟩ := hv
  have hx := Bd.exec
  have hb := Bd.bytes
  have hr := Bd.returns
  have hts := atoms_spec (ws := wsX0_accruedOn) Bd.pre
  have hown : s.vm.findClass RX0 = some m.cls := findClass_of_methodNamed Bd.named
  have hlocks := Bd.notSynchronized
  have hl := lv_entry ([.ref ht, .int a0]) (n := 2) (Nat.le_of_ble_eq_true rfl)
  rw [lg_entry_eq]
  generalize (lg_sl ([.ref ht, .int a0]) ++ List.replicate (2 - (lg_sl ([.ref ht, .int a0])).length) Slot.unset).toArray = ls at hl ⊢
  have hl : lv_has ls 2 [(0, .ref ht), (1, .int a0)] := hl
  unfold f_X0_accruedOn at hf
  refine lv_aload_n hx hb dX0_accruedOn_0 rfl (lv_at hl 0 rfl) ?_
  obtain ⟨v1, hv1, hf⟩ := ob hf
  refine cSz (W.runV (As := []) (rest := []) ⟨hx, hb, hml, hown, hts⟩ (m_X0_isGone l D cI cJ cO ah ht hs hd B S T n ds v1 hv1) (cwV 0 hts gX0_accruedOn_X0_isGone rfl rfl rfl (by decide +kernel) ⟨Nat.le_of_ble_eq_true rfl, Nat.le_of_ble_eq_true rfl⟩) ⟨pw_blind, va_recv hK hP (ci := 0) (q0 := 3) rfl rfl, fun U hU hW => ⟨rfl, pw_at hZ va_S.rf hP hK hU hW (Or.inr rfl) [0, 1, 2, 3] rfl⟩⟩ rfl rfl hl.1 rfl (lv_room (Nat.le_of_ble_eq_true rfl)) dX0_accruedOn_1 ⟨Nat.zero_le _, Nat.zero_le _⟩) (fun zv1 => ?_)
  refine lv_if_eq (tgt := 11) hx hb dX0_accruedOn_4 (by decide) (fun c2 => ?_) (fun c2 => ?_)
  · have hf := it hf c2
    refine lv_aload_n hx hb dX0_accruedOn_11 rfl (lv_at hl 0 rfl) ?_
    refine va_get (D := D) (ci := 0) (v := .ref hs) (C := RX0) (T := TX0) (N := 9) hx hb hts inX0_accruedOn_X0 hown hK hP 3 rfl rfl 0 (by decide) (hts (.fieldLink RX0 9 "BondDesk$Bond" "schedule" "LBondDesk$Schedule;") (by decide +kernel)) (fun _ h9 => h9) rfl dX0_accruedOn_12 ?_
    refine lv_iload_n hx hb dX0_accruedOn_15 rfl (lv_at hl 1 rfl) ?_
    refine lv_aload_n hx hb dX0_accruedOn_16 rfl (lv_at hl 0 rfl) ?_
    obtain ⟨v3, hv3, hf⟩ := ob hf
    refine cSl (W.runV (As := []) (rest := [.int a0, .ref hs]) ⟨hx, hb, hml, hown, hts⟩ (m_X0_face l D cI cJ cO ah ht hs hd B S T n ds v3 hv3) (cwV 0 hts gX0_accruedOn_X0_face rfl rfl rfl (by decide +kernel) ⟨Nat.le_of_ble_eq_true rfl, Nat.le_of_ble_eq_true rfl⟩) ⟨pw_blind, va_recv hK hP (ci := 0) (q0 := 3) rfl rfl, fun U hU hW => ⟨rfl, pw_at hZ va_S.rf hP hK hU hW (Or.inr rfl) [0, 1, 2, 3] rfl⟩⟩ rfl rfl hl.1 rfl (lv_room (Nat.le_of_ble_eq_true rfl)) dX0_accruedOn_17 ⟨Nat.zero_le _, Nat.zero_le _⟩) ?_
    obtain ⟨v4, hv4, hf⟩ := ob hf
    refine cSl (W.runV (As := [.int a0, .long v3]) (rest := []) ⟨hx, hb, hml, hown, hts⟩ (m_X3_accruedFor l D cI cJ cO ah hs hd S T n ds a0 v3 N v4 hv4) (cwV 2 hts gX0_accruedOn_X3_accruedFor rfl rfl rfl (by decide +kernel) ⟨Nat.le_of_ble_eq_true rfl, Nat.le_of_ble_eq_true rfl⟩) ⟨pw_blind, va_recv hK hP (ci := 2) (q0 := 2) rfl rfl, fun U hU hW => ⟨rfl, pw_at hZ va_S.rf hP hK hU hW (Or.inr rfl) [0, 1, 2] rfl⟩⟩ rfl rfl hl.1 rfl (lv_room (Nat.le_of_ble_eq_true rfl)) dX0_accruedOn_20 ⟨Nat.zero_le _, Nat.zero_le _⟩) ?_
    exact W.lret hx hb hr (fun t ht _ => ⟨_, rfl, Option.some.inj hf, ht⟩) (fun q hq => absurd hq List.not_mem_nil) dX0_accruedOn_23
  · have hf := ie hf c2
    refine lv_lconst (v := 0) hx hb dX0_accruedOn_7 (by decide) ?_
    refine lv_goto (tgt := 23) hx hb dX0_accruedOn_8 (by decide) ?_
    exact W.lret hx hb hr (fun t ht _ => ⟨_, rfl, Option.some.inj hf, ht⟩) (fun q hq => absurd hq List.not_mem_nil) dX0_accruedOn_23
def f_X0_fullPrice (N : Nat) (S : Nat → Int32) (n : Nat) (ds : Nat → Int32) (B : Nat → Int32) (a0 : Int32) (a1 : Int32) : Option Int64 :=
  (f_X0_face B).bind fun v1 : Int64 => (f_X0_face B).bind fun v2 : Int64 => (f_X3_accruedFor N S n ds a0 v2).bind fun v3 : Int64 => some (((v1 * (a1.toInt64)) / 10000) + v3)
theorem inX0_fullPrice_X0 : ∀ w ∈ wsX00, w ∈ wsX0_fullPrice := by decide +kernel
set_option maxHeartbeats 4000000 in
set_option maxRecDepth 100000 in
theorem m_X0_fullPrice (l : Launch) (D : va_G) (cI cJ cO : ClassId) (ah : Nat) (ht hs hd : Nat) (B : Nat → Int32) (S : Nat → Int32) (T : Nat → Int64) (n : Nat) (ds : Nat → Int32) (a0 : Int32) (a1 : Int32) (N : Nat) (r : Int64) (hf : f_X0_fullPrice N S n ds B a0 a1 = some r) : Met l yX0_fullPrice wsX0_fullPrice ({ frames := 4, cells := 0, slots := 0, locals := 93 }) (va_Pc [.ref ht, .int a0, .int a1] (pw D (ty3 cI cJ cO) (some ah) [eA cI ah, eD cI hd n ds, eS hs hd S T, eB ht hs B])) (QSl r) 0 0 (fun _ => False) := by
  refine Met.ofW (cc := cX0_fullPrice) (maxL := 3) (ret := (some .long)) (by decide) rfl ?_
  intro p e s m args below meth c s₁ Bd hml hv
  obtain ⟨rfl, hZ, hP, hK⟩ := hv
  have hx := Bd.exec
  have hb := Bd.bytes
  have hr := Bd.returns
  have hts := atoms_spec (ws := wsX0_fullPrice) Bd.pre
  have hown : s.vm.findClass RX0 = some m.cls := findClass_of_methodNamed Bd.named
  have hlocks := Bd.notSynchronized
  have hl := lv_entry ([.ref ht, .int a0, .int a1]) (n := 3) (Nat.le_of_ble_eq_true rfl)
  rw [lg_entry_eq]
  generalize (lg_sl ([.ref ht, .int a0, .int a1]) ++ List.replicate (3 - (lg_sl ([.ref ht, .int a0, .int a1])).length) Slot.unset).toArray = ls at hl ⊢
  have hl : lv_has ls 3 [(0, .ref ht), (1, .int a0), (2, .int a1)] := hl
  unfold f_X0_fullPrice at hf
  refine lv_aload_n hx hb dX0_fullPrice_0 rfl (lv_at hl 0 rfl) ?_
  obtain ⟨v1, hv1, hf⟩ := ob hf
  refine cSl (W.runV (As := []) (rest := []) ⟨hx, hb, hml, hown, hts⟩ (m_X0_face l D cI cJ cO ah ht hs hd B S T n ds v1 hv1) (cwV 0 hts gX0_fullPrice_X0_face rfl rfl rfl (by decide +kernel) ⟨Nat.le_of_ble_eq_true rfl, Nat.le_of_ble_eq_true rfl⟩) ⟨pw_blind, va_recv hK hP (ci := 0) (q0 := 3) rfl rfl, fun U hU hW => ⟨rfl, pw_at hZ va_S.rf hP hK hU hW (Or.inr rfl) [0, 1, 2, 3] rfl⟩⟩ rfl rfl hl.1 rfl (lv_room (Nat.le_of_ble_eq_true rfl)) dX0_fullPrice_1 ⟨Nat.zero_le _, Nat.zero_le _⟩) ?_
  refine lv_iload_n hx hb dX0_fullPrice_4 rfl (lv_at hl 2 rfl) ?_
  refine lv_i2l hx hb dX0_fullPrice_5 rfl ?_
  refine lv_lmul hx hb dX0_fullPrice_6 ?_
  refine lv_ldc2 hx hb hown (hts (.constantLong RX0 52 (10000)) (by decide +kernel)) dX0_fullPrice_7 ?_
  refine lv_ldiv hx hb dX0_fullPrice_10 (by decide) ?_
  refine lv_aload_n hx hb dX0_fullPrice_11 rfl (lv_at hl 0 rfl) ?_
  refine va_get (D := D) (ci := 0) (v := .ref hs) (C := RX0) (T := TX0) (N := 9) hx hb hts inX0_fullPrice_X0 hown hK hP 3 rfl rfl 0 (by decide) (hts (.fieldLink RX0 9 "BondDesk$Bond" "schedule" "LBondDesk$Schedule;") (by decide +kernel)) (fun _ h9 => h9) rfl dX0_fullPrice_12 ?_
  refine lv_iload_n hx hb dX0_fullPrice_15 rfl (lv_at hl 1 rfl) ?_
  refine lv_aload_n hx hb dX0_fullPrice_16 rfl (lv_at hl 0 rfl) ?_
  obtain ⟨v2, hv2, hf⟩ := ob hf
  refine cSl (W.runV (As := []) (rest := [.int a0, .ref hs, .long ((v1 * (a1.toInt64)) / 10000)]) ⟨hx, hb, hml, hown, hts⟩ (m_X0_face l D cI cJ cO ah ht hs hd B S T n ds v2 hv2) (cwV 0 hts gX0_fullPrice_X0_face rfl rfl rfl (by decide +kernel) ⟨Nat.le_of_ble_eq_true rfl, Nat.le_of_ble_eq_true rfl⟩) ⟨pw_blind, va_recv hK hP (ci := 0) (q0 := 3) rfl rfl, fun U hU hW => ⟨rfl, pw_at hZ va_S.rf hP hK hU hW (Or.inr rfl) [0, 1, 2, 3] rfl⟩⟩ rfl rfl hl.1 rfl (lv_room (Nat.le_of_ble_eq_true rfl)) dX0_fullPrice_17 ⟨Nat.zero_le _, Nat.zero_le _⟩) ?_
  obtain ⟨v3, hv3, hf⟩ := ob hf
  refine cSl (W.runV (As := [.int a0, .long v2]) (rest := [.long ((v1 * (a1.toInt64)) / 10000)]) ⟨hx, hb, hml, hown, hts⟩ (m_X3_accruedFor l D cI cJ cO ah hs hd S T n ds a0 v2 N v3 hv3) (cwV 2 hts gX0_fullPrice_X3_accruedFor rfl rfl rfl (by decide +kernel) ⟨Nat.le_of_ble_eq_true rfl, Nat.le_of_ble_eq_true rfl⟩) ⟨pw_blind, va_recv hK hP (ci := 2) (q0 := 2) rfl rfl, fun U hU hW => ⟨rfl, pw_at hZ va_S.rf hP hK hU hW (Or.inr rfl) [0, 1, 2] rfl⟩⟩ rfl rfl hl.1 rfl (lv_room (Nat.le_of_ble_eq_true rfl)) dX0_fullPrice_20 ⟨Nat.zero_le _, Nat.zero_le _⟩) ?_
  refine lv_ladd hx hb dX0_fullPrice_23 ?_
  exact W.lret hx hb hr (fun t ht _ => ⟨_, rfl, Option.some.inj hf, ht⟩) (fun q hq => absurd hq List.not_mem_nil) dX0_fullPrice_24
def f_X0_isEnd (n : Nat) (a0 : Int32) : Option Int32 :=
  (if a0 = ((nI n) - 1) then some 1 else some 0)
theorem inX0_isEnd_X0 : ∀ w ∈ wsX00, w ∈ wsX0_isEnd := by decide +kernel
theorem inX0_isEnd_X3 : ∀ w ∈ wsX30, w ∈ wsX0_isEnd := by decide +kernel
set_option maxHeartbeats 4000000 in
set_option maxRecDepth 100000 in
theorem m_X0_isEnd (l : Launch) (D : va_G) (cI cJ cO : ClassId) (ah : Nat) (ht hs hd : Nat) (B : Nat → Int32) (S : Nat → Int32) (T : Nat → Int64) (n : Nat) (ds : Nat → Int32) (a0 : Int32) (r : Int32) (hf : f_X0_isEnd n a0 = some r) : Met l yX0_isEnd wsX0_isEnd ({ frames := 0, cells := 0, slots := 0, locals := 0 }) (va_Pc [.ref ht, .int a0] (pw D (ty3 cI cJ cO) (some ah) [eA cI ah, eD cI hd n ds, eS hs hd S T, eB ht hs B])) (QSz r) 0 0 (fun _ => False) := by
  refine Met.ofW (cc := cX0_isEnd) (maxL := 2) (ret := (some .boolean)) (by decide) rfl ?_
  intro p e s m args below meth c s₁ Bd hml hv
  obtain ⟨rfl, hZ, hP, hK⟩ := hv
  have hx := Bd.exec
  have hb := Bd.bytes
  have hr := Bd.returns
  have hts := atoms_spec (ws := wsX0_isEnd) Bd.pre
  have hown : s.vm.findClass RX0 = some m.cls := findClass_of_methodNamed Bd.named
  have hlocks := Bd.notSynchronized
  have hl := lv_entry ([.ref ht, .int a0]) (n := 2) (Nat.le_of_ble_eq_true rfl)
  rw [lg_entry_eq]
  generalize (lg_sl ([.ref ht, .int a0]) ++ List.replicate (2 - (lg_sl ([.ref ht, .int a0])).length) Slot.unset).toArray = ls at hl ⊢
  have hl : lv_has ls 2 [(0, .ref ht), (1, .int a0)] := hl
  unfold f_X0_isEnd at hf
  refine lv_iload_n hx hb dX0_isEnd_0 rfl (lv_at hl 1 rfl) ?_
  refine lv_aload_n hx hb dX0_isEnd_1 rfl (lv_at hl 0 rfl) ?_
  refine va_get (D := D) (ci := 0) (v := .ref hs) (C := RX0) (T := TX0) (N := 9) hx hb hts inX0_isEnd_X0 hown hK hP 3 rfl rfl 0 (by decide) (hts (.fieldLink RX0 9 "BondDesk$Bond" "schedule" "LBondDesk$Schedule;") (by decide +kernel)) (fun _ h9 => h9) rfl dX0_isEnd_2 ?_
  refine va_get (D := D) (ci := 2) (v := .ref hd) (C := RX3) (T := TX3) (N := 9) hx hb hts inX0_isEnd_X3 hown hK hP 2 rfl rfl 6 (by decide) (hts (.fieldLink RX0 66 "BondDesk$Schedule" "dates" "[I") (by decide +kernel)) (fun _ h9 => h9) rfl dX0_isEnd_5 ?_
  refine va_alen (v := (nI n)) hx hb hK hP 1 0 rfl rfl rfl dX0_isEnd_8 ?_
  refine lv_iconst (v := 1) hx hb dX0_isEnd_9 (by decide) ?_
  refine lv_isub hx hb dX0_isEnd_10 ?_
  refine lv_icmp_ne (tgt := 18) hx hb dX0_isEnd_11 (by decide) (fun c1 => ?_) (fun c1 => ?_)
  · have hf := ie hf c1
    refine lv_iconst (v := 0) hx hb dX0_isEnd_18 (by decide) ?_
    exact W.zret hx hb hr (zn (Or.inl rfl)) (fun t ht _ => ⟨_, rfl, ⟨Option.some.inj hf, (Or.inl rfl)⟩, ht⟩) (fun q hq => absurd hq List.not_mem_nil) dX0_isEnd_19
  · have hf := it hf c1
    refine lv_iconst (v := 1) hx hb dX0_isEnd_14 (by decide) ?_
    refine lv_goto (tgt := 19) hx hb dX0_isEnd_15 (by decide) ?_
    exact W.zret hx hb hr (zn (Or.inr rfl)) (fun t ht _ => ⟨_, rfl, ⟨Option.some.inj hf, (Or.inr rfl)⟩, ht⟩) (fun q hq => absurd hq List.not_mem_nil) dX0_isEnd_19
def f_X0_sunkOn (n : Nat) (ds : Nat → Int32) (B : Nat → Int32) (a0 : Int32) (a1 : Int32) : Option Int32 :=
  jn (fun (x2 : Int32) => (if x2 = 0 then some 0 else bd (if a1 < (B 6) then a1 else (B 6) : Int32) fun x4 : Int32 => some x4)) fun K1 => jn (fun (_ : Unit) => K1 0) fun K5 => (if a0 < 0 then K5 () else (if ((nI n) - 1) ≤ a0 then K5 () else gd (¬ (a0 < 0 ∨ n ≤ a0.toNatClampNeg)) ((if (ds a0.toNatClampNeg) < (B 5) then K5 () else K1 1))))
theorem inX0_sunkOn_X0 : ∀ w ∈ wsX00, w ∈ wsX0_sunkOn := by decide +kernel
theorem inX0_sunkOn_X3 : ∀ w ∈ wsX30, w ∈ wsX0_sunkOn := by decide +kernel
set_option maxHeartbeats 4000000 in
set_option maxRecDepth 100000 in
theorem m_X0_sunkOn (l : Launch) (D : va_G) (cI cJ cO : ClassId) (ah : Nat) (ht hs hd : Nat) (B : Nat → Int32) (S : Nat → Int32) (T : Nat → Int64) (n : Nat) (ds : Nat → Int32) (a0 : Int32) (a1 : Int32) (r : Int32) (hf : f_X0_sunkOn n ds B a0 a1 = some r) : Met l yX0_sunkOn wsX0_sunkOn ({ frames := 1, cells := 0, slots := 0, locals := 13 }) (va_Pc [.ref ht, .int a0, .int a1] (pw D (ty3 cI cJ cO) (some ah) [eA cI ah, eD cI hd n ds, eS hs hd S T, eB ht hs B])) (QSi r) 0 0 (fun _ => False) := by
  refine Met.ofW (cc := cX0_sunkOn) (maxL := 4) (ret := (some .int)) (by decide) rfl ?_
  intro p e s m args below meth c s₁ Bd hml hv
  obtain ⟨rfl, hZ, hP, hK⟩ := hv
  have hx := Bd.exec
  have hb := Bd.bytes
  have hr := Bd.returns
  have hts := atoms_spec (ws := wsX0_sunkOn) Bd.pre
  have hown : s.vm.findClass RX0 = some m.cls := findClass_of_methodNamed Bd.named
  have hlocks := Bd.notSynchronized
  have hl := lv_entry ([.ref ht, .int a0, .int a1]) (n := 4) (Nat.le_of_ble_eq_true rfl)
  rw [lg_entry_eq]
  generalize (lg_sl ([.ref ht, .int a0, .int a1]) ++ List.replicate (4 - (lg_sl ([.ref ht, .int a0, .int a1])).length) Slot.unset).toArray = ls at hl ⊢
  have hl : lv_has ls 4 [(0, .ref ht), (1, .int a0), (2, .int a1)] := hl
  unfold f_X0_sunkOn at hf
  refine lv_iload_n hx hb dX0_sunkOn_0 rfl (lv_at hl 1 rfl) ?_
  obtain ⟨K1, hK1, hf⟩ := jn_s hf
  have JK1 : ∀ (x2 : Int32) (ls : Array Slot), lv_has ls 4 [(0, .ref ht), (2, .int a1)] → K1 x2 = some r → W p l e (headSpec wsX0_sunkOn ({ frames := 1, cells := 0, slots := 0, locals := 13 })).room s m ([.ref ht, .int a0, .int a1] : List Value).toArray below meth c s.heap [] 0 0 (MQ below (QSi r) ([.ref ht, .int a0, .int a1] : List Value).toArray s 0 0 (fun _ => False)) (F0 m 39 ls [.int x2]) := by
    intro x2 ls hl hf
    rw [hK1] at hf
    refine lv_istore_n (lv' := [(3, .int x2), (0, .ref ht), (2, .int a1)]) hx hb dX0_sunkOn_39 rfl hl (by decide) rfl (fun ls hl => ?_)
    refine lv_iload_n hx hb dX0_sunkOn_40 rfl (lv_at hl 0 rfl) ?_
    refine lv_if_eq (tgt := 55) hx hb dX0_sunkOn_41 (by decide) (fun c3 => ?_) (fun c3 => ?_)
    · have hf := it hf c3
      refine lv_iconst (v := 0) hx hb dX0_sunkOn_55 (by decide) ?_
      exact W.iret hx hb hr (fun t ht _ => ⟨_, rfl, Option.some.inj hf, ht⟩) (fun q hq => absurd hq List.not_mem_nil) dX0_sunkOn_56
    · have hf := ie hf c3
      refine lv_aload_n hx hb dX0_sunkOn_44 rfl (lv_at hl 1 rfl) ?_
      refine va_get (D := D) (ci := 0) (v := .int (B 6)) (C := RX0) (T := TX0) (N := 9) hx hb hts inX0_sunkOn_X0 hown hK hP 3 rfl rfl 6 (by decide) (hts (.fieldLink RX0 73 "BondDesk$Bond" "sinkPart" "I") (by decide +kernel)) (fun _ h9 => h9) rfl dX0_sunkOn_45 ?_
      refine lv_iload_n hx hb dX0_sunkOn_48 rfl (lv_at hl 2 rfl) ?_
      refine va_mmin hx hb (hml.trans hl.1.symm) hown (hts (.methodLink RX0 76 Lib.Math.min.name) (by decide +kernel)) (hts (.static Lib.Math.min.name) (by decide +kernel)) (hts (.initialized "java/lang/Math") (by decide +kernel)) (hts (.code Lib.Math.min.name Lib.Math.min.code 2 (some .int)) (by decide +kernel)) (Nat.le_of_ble_eq_true rfl) (Nat.le_of_ble_eq_true rfl) (Nat.zero_le _) (Nat.zero_le _) dX0_sunkOn_49 ?_
      refine lv_topi (fun x4 ex4 => ?_)
      have hf := bd_s hf ex4
      refine lv_goto (tgt := 56) hx hb dX0_sunkOn_52 (by decide) ?_
      exact W.iret hx hb hr (fun t ht _ => ⟨_, rfl, Option.some.inj hf, ht⟩) (fun q hq => absurd hq List.not_mem_nil) dX0_sunkOn_56
  obtain ⟨K5, hK5, hf⟩ := jn_s hf
  have JK5 : ∀  (ls : Array Slot), lv_has ls 4 [(0, .ref ht), (2, .int a1)] → K5 () = some r → W p l e (headSpec wsX0_sunkOn ({ frames := 1, cells := 0, slots := 0, locals := 13 })).room s m ([.ref ht, .int a0, .int a1] : List Value).toArray below meth c s.heap [] 0 0 (MQ below (QSi r) ([.ref ht, .int a0, .int a1] : List Value).toArray s 0 0 (fun _ => False)) (F0 m 38 ls []) := by
    intro  ls hl hf
    rw [hK5] at hf
    refine lv_iconst (v := 0) hx hb dX0_sunkOn_38 (by decide) ?_
    exact JK1 0 ls (lv_sub hl [0, 1] rfl) hf
  refine lv_if_lt (tgt := 38) hx hb dX0_sunkOn_1 (by decide) (fun c6 => ?_) (fun c6 => ?_)
  · have hf := it hf c6
    exact JK5  ls (lv_sub hl [0, 2] rfl) hf
  · have hf := ie hf c6
    refine lv_iload_n hx hb dX0_sunkOn_4 rfl (lv_at hl 1 rfl) ?_
    refine lv_aload_n hx hb dX0_sunkOn_5 rfl (lv_at hl 0 rfl) ?_
    refine va_get (D := D) (ci := 0) (v := .ref hs) (C := RX0) (T := TX0) (N := 9) hx hb hts inX0_sunkOn_X0 hown hK hP 3 rfl rfl 0 (by decide) (hts (.fieldLink RX0 9 "BondDesk$Bond" "schedule" "LBondDesk$Schedule;") (by decide +kernel)) (fun _ h9 => h9) rfl dX0_sunkOn_6 ?_
    refine va_get (D := D) (ci := 2) (v := .ref hd) (C := RX3) (T := TX3) (N := 9) hx hb hts inX0_sunkOn_X3 hown hK hP 2 rfl rfl 6 (by decide) (hts (.fieldLink RX0 66 "BondDesk$Schedule" "dates" "[I") (by decide +kernel)) (fun _ h9 => h9) rfl dX0_sunkOn_9 ?_
    refine va_alen (v := (nI n)) hx hb hK hP 1 0 rfl rfl rfl dX0_sunkOn_12 ?_
    refine lv_iconst (v := 1) hx hb dX0_sunkOn_13 (by decide) ?_
    refine lv_isub hx hb dX0_sunkOn_14 ?_
    refine lv_icmp_ge (tgt := 38) hx hb dX0_sunkOn_15 (by decide) (fun c7 => ?_) (fun c7 => ?_)
    · have hf := it hf c7
      exact JK5  ls (lv_sub hl [0, 2] rfl) hf
    · have hf := ie hf c7
      refine lv_aload_n hx hb dX0_sunkOn_18 rfl (lv_at hl 0 rfl) ?_
      refine va_get (D := D) (ci := 0) (v := .ref hs) (C := RX0) (T := TX0) (N := 9) hx hb hts inX0_sunkOn_X0 hown hK hP 3 rfl rfl 0 (by decide) (hts (.fieldLink RX0 9 "BondDesk$Bond" "schedule" "LBondDesk$Schedule;") (by decide +kernel)) (fun _ h9 => h9) rfl dX0_sunkOn_19 ?_
      refine va_get (D := D) (ci := 2) (v := .ref hd) (C := RX3) (T := TX3) (N := 9) hx hb hts inX0_sunkOn_X3 hown hK hP 2 rfl rfl 6 (by decide) (hts (.fieldLink RX0 66 "BondDesk$Schedule" "dates" "[I") (by decide +kernel)) (fun _ h9 => h9) rfl dX0_sunkOn_22 ?_
      refine lv_iload_n hx hb dX0_sunkOn_25 rfl (lv_at hl 1 rfl) ?_
      obtain ⟨c8, hf⟩ := gd_s hf
      refine va_iald hx hb hK hP 1 0 rfl rfl c8 dX0_sunkOn_26 ?_
      refine lv_aload_n hx hb dX0_sunkOn_27 rfl (lv_at hl 0 rfl) ?_
      refine va_get (D := D) (ci := 0) (v := .int (B 5)) (C := RX0) (T := TX0) (N := 9) hx hb hts inX0_sunkOn_X0 hown hK hP 3 rfl rfl 5 (by decide) (hts (.fieldLink RX0 70 "BondDesk$Bond" "sinkFrom" "I") (by decide +kernel)) (fun _ h9 => h9) rfl dX0_sunkOn_28 ?_
      refine lv_icmp_lt (tgt := 38) hx hb dX0_sunkOn_31 (by decide) (fun c9 => ?_) (fun c9 => ?_)
      · have hf := it hf c9
        exact JK5  ls (lv_sub hl [0, 2] rfl) hf
      · have hf := ie hf c9
        refine lv_iconst (v := 1) hx hb dX0_sunkOn_34 (by decide) ?_
        refine lv_goto (tgt := 39) hx hb dX0_sunkOn_35 (by decide) ?_
        exact JK1 1 ls (lv_sub hl [0, 2] rfl) hf
def f_X0_paymentOn (S : Nat → Int32) (T : Nat → Int64) (n : Nat) (ds : Nat → Int32) (B : Nat → Int32) (a0 : Int32) (a1 : Int32) : Option Int64 :=
  (f_X0_faceOf a1).bind fun v1 : Int64 => (f_X3_couponFor S T a0 v1).bind fun v2 : Int64 => (f_X0_isEnd n a0).bind fun v3 : Int32 => (if v3 = 0 then (f_X0_sunkOn n ds B a0 a1).bind fun v5 : Int32 => (f_X0_faceOf v5).bind fun v6 : Int64 => some (v2 + v6) else (f_X0_faceOf a1).bind fun v7 : Int64 => some (v2 + v7))
theorem inX0_paymentOn_X0 : ∀ w ∈ wsX00, w ∈ wsX0_paymentOn := by decide +kernel
set_option maxHeartbeats 4000000 in
set_option maxRecDepth 100000 in
theorem m_X0_paymentOn (l : Launch) (D : va_G) (cI cJ cO : ClassId) (ah : Nat) (ht hs hd : Nat) (B : Nat → Int32) (S : Nat → Int32) (T : Nat → Int64) (n : Nat) (ds : Nat → Int32) (a0 : Int32) (a1 : Int32) (r : Int64) (hf : f_X0_paymentOn S T n ds B a0 a1 = some r) : Met l yX0_paymentOn wsX0_paymentOn ({ frames := 2, cells := 0, slots := 0, locals := 36 }) (va_Pc [.ref ht, .int a0, .int a1] (pw D (ty3 cI cJ cO) (some ah) [eA cI ah, eD cI hd n ds, eS hs hd S T, eB ht hs B])) (QSl r) 0 0 (fun _ => False) := by
  refine Met.ofW (cc := cX0_paymentOn) (maxL := 3) (ret := (some .long)) (by decide) rfl ?_
  intro p e s m args below meth c s₁ Bd hml hv
  obtain ⟨rfl, hZ, hP, hK⟩ := hv
  have hx := Bd.exec
  have hb := Bd.bytes
  have hr := Bd.returns
  have hts := atoms_spec (ws := wsX0_paymentOn) Bd.pre
  have hown : s.vm.findClass RX0 = some m.cls := findClass_of_methodNamed Bd.named
  have hlocks := Bd.notSynchronized
  have hl := lv_entry ([.ref ht, .int a0, .int a1]) (n := 3) (Nat.le_of_ble_eq_true rfl)
  rw [lg_entry_eq]
  generalize (lg_sl ([.ref ht, .int a0, .int a1]) ++ List.replicate (3 - (lg_sl ([.ref ht, .int a0, .int a1])).length) Slot.unset).toArray = ls at hl ⊢
  have hl : lv_has ls 3 [(0, .ref ht), (1, .int a0), (2, .int a1)] := hl
  unfold f_X0_paymentOn at hf
  refine lv_aload_n hx hb dX0_paymentOn_0 rfl (lv_at hl 0 rfl) ?_
  refine va_get (D := D) (ci := 0) (v := .ref hs) (C := RX0) (T := TX0) (N := 9) hx hb hts inX0_paymentOn_X0 hown hK hP 3 rfl rfl 0 (by decide) (hts (.fieldLink RX0 9 "BondDesk$Bond" "schedule" "LBondDesk$Schedule;") (by decide +kernel)) (fun _ h9 => h9) rfl dX0_paymentOn_1 ?_
  refine lv_iload_n hx hb dX0_paymentOn_4 rfl (lv_at hl 1 rfl) ?_
  refine lv_iload_n hx hb dX0_paymentOn_5 rfl (lv_at hl 2 rfl) ?_
  obtain ⟨v1, hv1, hf⟩ := ob hf
  refine cSl (W.runS (As := [.int a1]) (rest := [.int a0, .ref hs]) ⟨hx, hb, hml, hown, hts⟩ (m_X0_faceOf l D cI cJ cO ah a1 v1 hv1) (va_cwS 1 hts gX0_paymentOn_X0_faceOf rfl rfl rfl (by decide +kernel) ⟨Nat.le_of_ble_eq_true rfl, Nat.le_of_ble_eq_true rfl⟩) ⟨pw_blind, fun U hU hW => ⟨rfl, pw_at hZ va_S.rf hP hK hU hW (Or.inr rfl) [] rfl⟩⟩ rfl rfl hl.1 rfl (lv_room (Nat.le_of_ble_eq_true rfl)) dX0_paymentOn_6 ⟨Nat.zero_le _, Nat.zero_le _⟩) ?_
  obtain ⟨v2, hv2, hf⟩ := ob hf
  refine cSl (W.runV (As := [.int a0, .long v1]) (rest := []) ⟨hx, hb, hml, hown, hts⟩ (m_X3_couponFor l D cI cJ cO ah hs hd S T n ds a0 v1 v2 hv2) (cwV 2 hts gX0_paymentOn_X3_couponFor rfl rfl rfl (by decide +kernel) ⟨Nat.le_of_ble_eq_true rfl, Nat.le_of_ble_eq_true rfl⟩) ⟨pw_blind, va_recv hK hP (ci := 2) (q0 := 2) rfl rfl, fun U hU hW => ⟨rfl, pw_at hZ va_S.rf hP hK hU hW (Or.inr rfl) [0, 1, 2] rfl⟩⟩ rfl rfl hl.1 rfl (lv_room (Nat.le_of_ble_eq_true rfl)) dX0_paymentOn_9 ⟨Nat.zero_le _, Nat.zero_le _⟩) ?_
  refine lv_aload_n hx hb dX0_paymentOn_12 rfl (lv_at hl 0 rfl) ?_
  refine lv_iload_n hx hb dX0_paymentOn_13 rfl (lv_at hl 1 rfl) ?_
  obtain ⟨v3, hv3, hf⟩ := ob hf
  refine cSz (W.runV (As := [.int a0]) (rest := [.long v2]) ⟨hx, hb, hml, hown, hts⟩ (m_X0_isEnd l D cI cJ cO ah ht hs hd B S T n ds a0 v3 hv3) (cwV 1 hts gX0_paymentOn_X0_isEnd rfl rfl rfl (by decide +kernel) ⟨Nat.le_of_ble_eq_true rfl, Nat.le_of_ble_eq_true rfl⟩) ⟨pw_blind, va_recv hK hP (ci := 0) (q0 := 3) rfl rfl, fun U hU hW => ⟨rfl, pw_at hZ va_S.rf hP hK hU hW (Or.inr rfl) [0, 1, 2, 3] rfl⟩⟩ rfl rfl hl.1 rfl (lv_room (Nat.le_of_ble_eq_true rfl)) dX0_paymentOn_14 ⟨Nat.zero_le _, Nat.zero_le _⟩) (fun zv3 => ?_)
  refine lv_if_eq (tgt := 24) hx hb dX0_paymentOn_17 (by decide) (fun c4 => ?_) (fun c4 => ?_)
  · have hf := it hf c4
    refine lv_aload_n hx hb dX0_paymentOn_24 rfl (lv_at hl 0 rfl) ?_
    refine lv_iload_n hx hb dX0_paymentOn_25 rfl (lv_at hl 1 rfl) ?_
    refine lv_iload_n hx hb dX0_paymentOn_26 rfl (lv_at hl 2 rfl) ?_
    obtain ⟨v5, hv5, hf⟩ := ob hf
    refine cSi (W.runV (As := [.int a0, .int a1]) (rest := [.long v2]) ⟨hx, hb, hml, hown, hts⟩ (m_X0_sunkOn l D cI cJ cO ah ht hs hd B S T n ds a0 a1 v5 hv5) (cwV 2 hts gX0_paymentOn_X0_sunkOn rfl rfl rfl (by decide +kernel) ⟨Nat.le_of_ble_eq_true rfl, Nat.le_of_ble_eq_true rfl⟩) ⟨pw_blind, va_recv hK hP (ci := 0) (q0 := 3) rfl rfl, fun U hU hW => ⟨rfl, pw_at hZ va_S.rf hP hK hU hW (Or.inr rfl) [0, 1, 2, 3] rfl⟩⟩ rfl rfl hl.1 rfl (lv_room (Nat.le_of_ble_eq_true rfl)) dX0_paymentOn_27 ⟨Nat.zero_le _, Nat.zero_le _⟩) ?_
    obtain ⟨v6, hv6, hf⟩ := ob hf
    refine cSl (W.runS (As := [.int v5]) (rest := [.long v2]) ⟨hx, hb, hml, hown, hts⟩ (m_X0_faceOf l D cI cJ cO ah v5 v6 hv6) (va_cwS 1 hts gX0_paymentOn_X0_faceOf rfl rfl rfl (by decide +kernel) ⟨Nat.le_of_ble_eq_true rfl, Nat.le_of_ble_eq_true rfl⟩) ⟨pw_blind, fun U hU hW => ⟨rfl, pw_at hZ va_S.rf hP hK hU hW (Or.inr rfl) [] rfl⟩⟩ rfl rfl hl.1 rfl (lv_room (Nat.le_of_ble_eq_true rfl)) dX0_paymentOn_30 ⟨Nat.zero_le _, Nat.zero_le _⟩) ?_
    refine lv_ladd hx hb dX0_paymentOn_33 ?_
    exact W.lret hx hb hr (fun t ht _ => ⟨_, rfl, Option.some.inj hf, ht⟩) (fun q hq => absurd hq List.not_mem_nil) dX0_paymentOn_34
  · have hf := ie hf c4
    refine lv_iload_n hx hb dX0_paymentOn_20 rfl (lv_at hl 2 rfl) ?_
    refine lv_goto (tgt := 30) hx hb dX0_paymentOn_21 (by decide) ?_
    obtain ⟨v7, hv7, hf⟩ := ob hf
    refine cSl (W.runS (As := [.int a1]) (rest := [.long v2]) ⟨hx, hb, hml, hown, hts⟩ (m_X0_faceOf l D cI cJ cO ah a1 v7 hv7) (va_cwS 1 hts gX0_paymentOn_X0_faceOf rfl rfl rfl (by decide +kernel) ⟨Nat.le_of_ble_eq_true rfl, Nat.le_of_ble_eq_true rfl⟩) ⟨pw_blind, fun U hU hW => ⟨rfl, pw_at hZ va_S.rf hP hK hU hW (Or.inr rfl) [] rfl⟩⟩ rfl rfl hl.1 rfl (lv_room (Nat.le_of_ble_eq_true rfl)) dX0_paymentOn_30 ⟨Nat.zero_le _, Nat.zero_le _⟩) ?_
    refine lv_ladd hx hb dX0_paymentOn_33 ?_
    exact W.lret hx hb hr (fun t ht _ => ⟨_, rfl, Option.some.inj hf, ht⟩) (fun q hq => absurd hq List.not_mem_nil) dX0_paymentOn_34
def f_X0_factorBehind_L10 (a0 : Int32) (n : Nat) (ds : Nat → Int32) (B : Nat → Int32)  : Nat → Int32 → Int32 → Option Int32
  | 0, _, _ => none
  | n5 + 1, x3, x4 => (if a0 < x4 then some x3 else (f_X0_sunkOn n ds B x4 x3).bind fun v7 : Int32 => bd (x3 - v7 : Int32) fun x8 : Int32 => bd (x4 + 1) fun x9 : Int32 => f_X0_factorBehind_L10 a0 n ds B n5 x8 x9)
def f_X0_factorBehind (N : Nat) (n : Nat) (ds : Nat → Int32) (B : Nat → Int32) (a0 : Int32) : Option Int32 :=
  bd (B 1 : Int32) fun x1 : Int32 => bd (B 3 : Int32) fun x2 : Int32 => f_X0_factorBehind_L10 a0 n ds B N x1 x2
theorem inX0_factorBehind_X0 : ∀ w ∈ wsX00, w ∈ wsX0_factorBehind := by decide +kernel
set_option maxHeartbeats 4000000 in
set_option maxRecDepth 100000 in
theorem m_X0_factorBehind (l : Launch) (D : va_G) (cI cJ cO : ClassId) (ah : Nat) (ht hs hd : Nat) (B : Nat → Int32) (S : Nat → Int32) (T : Nat → Int64) (n : Nat) (ds : Nat → Int32) (a0 : Int32) (N : Nat) (r : Int32) (hf : f_X0_factorBehind N n ds B a0 = some r) : Met l yX0_factorBehind wsX0_factorBehind ({ frames := 2, cells := 0, slots := 0, locals := 36 }) (va_Pc [.ref ht, .int a0] (pw D (ty3 cI cJ cO) (some ah) [eA cI ah, eD cI hd n ds, eS hs hd S T, eB ht hs B])) (QSi r) 0 0 (fun _ => False) := by
  refine Met.ofW (cc := cX0_factorBehind) (maxL := 4) (ret := (some .int)) (by decide) rfl ?_
  intro p e s m args below meth c s₁ Bd hml hv
  obtain ⟨rfl, hZ, hP, hK⟩ := hv
  have hx := Bd.exec
  have hb := Bd.bytes
  have hr := Bd.returns
  have hts := atoms_spec (ws := wsX0_factorBehind) Bd.pre
  have hown : s.vm.findClass RX0 = some m.cls := findClass_of_methodNamed Bd.named
  have hlocks := Bd.notSynchronized
  have hl := lv_entry ([.ref ht, .int a0]) (n := 4) (Nat.le_of_ble_eq_true rfl)
  rw [lg_entry_eq]
  generalize (lg_sl ([.ref ht, .int a0]) ++ List.replicate (4 - (lg_sl ([.ref ht, .int a0])).length) Slot.unset).toArray = ls at hl ⊢
  have hl : lv_has ls 4 [(0, .ref ht), (1, .int a0)] := hl
  unfold f_X0_factorBehind at hf
  refine lv_aload_n hx hb dX0_factorBehind_0 rfl (lv_at hl 0 rfl) ?_
  refine va_get (D := D) (ci := 0) (v := .int (B 1)) (C := RX0) (T := TX0) (N := 9) hx hb hts inX0_factorBehind_X0 hown hK hP 3 rfl rfl 1 (by decide) (hts (.fieldLink RX0 15 "BondDesk$Bond" "factor" "I") (by decide +kernel)) (fun _ h9 => h9) rfl dX0_factorBehind_1 ?_
  refine lv_topi (fun x1 ex1 => ?_)
  have hf := bd_s hf ex1
  refine lv_istore_n (lv' := [(2, .int x1), (0, .ref ht), (1, .int a0)]) hx hb dX0_factorBehind_4 rfl hl (by decide) rfl (fun ls hl => ?_)
  refine lv_aload_n hx hb dX0_factorBehind_5 rfl (lv_at hl 1 rfl) ?_
  refine va_get (D := D) (ci := 0) (v := .int (B 3)) (C := RX0) (T := TX0) (N := 9) hx hb hts inX0_factorBehind_X0 hown hK hP 3 rfl rfl 3 (by decide) (hts (.fieldLink RX0 25 "BondDesk$Bond" "next" "I") (by decide +kernel)) (fun _ h9 => h9) rfl dX0_factorBehind_6 ?_
  refine lv_topi (fun x2 ex2 => ?_)
  have hf := bd_s hf ex2
  refine lv_istore_n (lv' := [(3, .int x2), (2, .int x1), (0, .ref ht), (1, .int a0)]) hx hb dX0_factorBehind_9 rfl hl (by decide) rfl (fun ls hl => ?_)
  have LP10 : ∀ (n5 : Nat) (x3 : Int32) (x4 : Int32) (ls : Array Slot), lv_has ls 4 [(0, .ref ht), (1, .int a0), (2, .int x3), (3, .int x4)] → f_X0_factorBehind_L10 a0 n ds B n5 x3 x4 = some r → W p l e (headSpec wsX0_factorBehind ({ frames := 2, cells := 0, slots := 0, locals := 36 })).room s m ([.ref ht, .int a0] : List Value).toArray below meth c s.heap [] 0 0 (MQ below (QSi r) ([.ref ht, .int a0] : List Value).toArray s 0 0 (fun _ => False)) (F0 m 10 ls []) := by
    intro n5
    induction n5 with
    | zero => intro x3 x4 ls hl hf; exact (no_s hf).elim
    | succ n5 ih5 =>
      intro x3 x4 ls hl hf
      rw [f_X0_factorBehind_L10] at hf
      refine lv_iload_n hx hb dX0_factorBehind_10 rfl (lv_at hl 3 rfl) ?_
      refine lv_iload_n hx hb dX0_factorBehind_11 rfl (lv_at hl 1 rfl) ?_
      refine lv_icmp_gt (tgt := 30) hx hb dX0_factorBehind_12 (by decide) (fun c6 => ?_) (fun c6 => ?_)
      · have hf := it hf c6
        refine lv_iload_n hx hb dX0_factorBehind_30 rfl (lv_at hl 2 rfl) ?_
        exact W.iret hx hb hr (fun t ht _ => ⟨_, rfl, Option.some.inj hf, ht⟩) (fun q hq => absurd hq List.not_mem_nil) dX0_factorBehind_31
      · have hf := ie hf c6
        refine lv_iload_n hx hb dX0_factorBehind_15 rfl (lv_at hl 2 rfl) ?_
        refine lv_aload_n hx hb dX0_factorBehind_16 rfl (lv_at hl 0 rfl) ?_
        refine lv_iload_n hx hb dX0_factorBehind_17 rfl (lv_at hl 3 rfl) ?_
        refine lv_iload_n hx hb dX0_factorBehind_18 rfl (lv_at hl 2 rfl) ?_
        obtain ⟨v7, hv7, hf⟩ := ob hf
        refine cSi (W.runV (As := [.int x4, .int x3]) (rest := [.int x3]) ⟨hx, hb, hml, hown, hts⟩ (m_X0_sunkOn l D cI cJ cO ah ht hs hd B S T n ds x4 x3 v7 hv7) (cwV 2 hts gX0_factorBehind_X0_sunkOn rfl rfl rfl (by decide +kernel) ⟨Nat.le_of_ble_eq_true rfl, Nat.le_of_ble_eq_true rfl⟩) ⟨pw_blind, va_recv hK hP (ci := 0) (q0 := 3) rfl rfl, fun U hU hW => ⟨rfl, pw_at hZ va_S.rf hP hK hU hW (Or.inr rfl) [0, 1, 2, 3] rfl⟩⟩ rfl rfl hl.1 rfl (lv_room (Nat.le_of_ble_eq_true rfl)) dX0_factorBehind_19 ⟨Nat.zero_le _, Nat.zero_le _⟩) ?_
        refine lv_isub hx hb dX0_factorBehind_22 ?_
        refine lv_topi (fun x8 ex8 => ?_)
        have hf := bd_s hf ex8
        refine lv_istore_n (lv' := [(2, .int x8), (0, .ref ht), (1, .int a0), (3, .int x4)]) hx hb dX0_factorBehind_23 rfl hl (by decide) rfl (fun ls hl => ?_)
        obtain ⟨x9, ex9⟩ : ∃ y : Int32, y = x4 + 1 := ⟨_, rfl⟩
        have hf := bd_s hf ex9
        refine lv_iinc (v := x9) (lv' := [(3, .int x9), (2, .int x8), (0, .ref ht), (1, .int a0)]) hx hb dX0_factorBehind_24 hl (k := 3) rfl (by rw [ex9]; rfl) (by decide) rfl (fun ls hl => ?_)
        refine lv_goto (tgt := 10) hx hb dX0_factorBehind_27 (by decide) ?_
        exact ih5 x8 x9 ls (lv_sub hl [2, 3, 1, 0] rfl) hf
  exact LP10 N x1 x2 ls (lv_sub hl [2, 3, 1, 0] rfl) hf
def f_X0_worthAt_L107 (n : Nat) (S : Nat → Int32) (T : Nat → Int64) (ds : Nat → Int32) (B : Nat → Int32) (x2 : Int64) (a2 : Int32)  : Nat → Int32 → Int64 → Int64 → Int32 → Option Int64
  | 0, _, _, _, _ => none
  | n17 + 1, x13, x14, x15, x16 => (if (nI n) ≤ x16 then some x15 else (f_X0_paymentOn S T n ds B x16 x13).bind fun v19 : Int64 => bd (x15 + ((v19 * x14) / 1000000000) : Int64) fun x20 : Int64 => (f_X0_sunkOn n ds B x16 x13).bind fun v21 : Int32 => bd (x13 - v21 : Int32) fun x22 : Int32 => bd (x2 + (a2.toInt64) : Int64) fun x23 : Int64 => gd (¬ x23 = 0) (bd ((x14 * x2) / x23 : Int64) fun x25 : Int64 => bd (x16 + 1) fun x26 : Int32 => f_X0_worthAt_L107 n S T ds B x2 a2 n17 x22 x25 x20 x26))
def f_X0_worthAt (N : Nat) (S : Nat → Int32) (T : Nat → Int64) (n : Nat) (ds : Nat → Int32) (B : Nat → Int32) (a0 : Int32) (a1 : Int32) (a2 : Int32) : Option Int64 :=
  (f_X3_firstBehind N n ds a0).bind fun v1 : Int32 => bd (10000 * ((S 3).toInt64) : Int64) fun x2 : Int64 => (f_X0_isGone B).bind fun v3 : Int32 => (if v3 = 0 then (if (nI n) ≤ v1 then some 0 else (if (lg_cmp x2 0) ≤ 0 then some 0 else (if 0 ≤ a2 then gd (¬ (v1 < 0 ∨ n ≤ v1.toNatClampNeg)) ((f_X1_daysBetween a0 (ds v1.toNatClampNeg)).bind fun v9 : Int32 => bd (3650000 + ((a2.toInt64) * (v9.toInt64)) : Int64) fun x10 : Int64 => jn (fun (x12 : Int64) => f_X0_worthAt_L107 n S T ds B x2 a2 N a1 x12 0 v1) fun K11 => (if 0 < (lg_cmp x10 0) then gd (¬ x10 = 0) (K11 (3650000000000000 / x10)) else K11 0)) else some 0))) else some 0)
theorem inX0_worthAt_X0 : ∀ w ∈ wsX00, w ∈ wsX0_worthAt := by decide +kernel
theorem inX0_worthAt_X3 : ∀ w ∈ wsX30, w ∈ wsX0_worthAt := by decide +kernel
set_option maxHeartbeats 4000000 in
set_option maxRecDepth 100000 in
theorem m_X0_worthAt (l : Launch) (D : va_G) (cI cJ cO : ClassId) (ah : Nat) (ht hs hd : Nat) (B : Nat → Int32) (S : Nat → Int32) (T : Nat → Int64) (n : Nat) (ds : Nat → Int32) (a0 : Int32) (a1 : Int32) (a2 : Int32) (N : Nat) (r : Int64) (hf : f_X0_worthAt N S T n ds B a0 a1 a2 = some r) : Met l yX0_worthAt wsX0_worthAt ({ frames := 3, cells := 0, slots := 0, locals := 58 }) (va_Pc [.ref ht, .int a0, .int a1, .int a2] (pw D (ty3 cI cJ cO) (some ah) [eA cI ah, eD cI hd n ds, eS hs hd S T, eB ht hs B])) (QSl r) 0 0 (fun _ => False) := by
  refine Met.ofW (cc := cX0_worthAt) (maxL := 14) (ret := (some .long)) (by decide) rfl ?_
  intro p e s m args below meth c s₁ Bd hml hv
  obtain ⟨rfl, hZ, hP, hK⟩ := hv
  have hx := Bd.exec
  have hb := Bd.bytes
  have hr := Bd.returns
  have hts := atoms_spec (ws := wsX0_worthAt) Bd.pre
  have hown : s.vm.findClass RX0 = some m.cls := findClass_of_methodNamed Bd.named
  have hlocks := Bd.notSynchronized
  have hl := lv_entry ([.ref ht, .int a0, .int a1, .int a2]) (n := 14) (Nat.le_of_ble_eq_true rfl)
  rw [lg_entry_eq]
  generalize (lg_sl ([.ref ht, .int a0, .int a1, .int a2]) ++ List.replicate (14 - (lg_sl ([.ref ht, .int a0, .int a1, .int a2])).length) Slot.unset).toArray = ls at hl ⊢
  have hl : lv_has ls 14 [(0, .ref ht), (1, .int a0), (2, .int a1), (3, .int a2)] := hl
  unfold f_X0_worthAt at hf
  refine lv_aload_n hx hb dX0_worthAt_0 rfl (lv_at hl 0 rfl) ?_
  refine va_get (D := D) (ci := 0) (v := .ref hs) (C := RX0) (T := TX0) (N := 9) hx hb hts inX0_worthAt_X0 hown hK hP 3 rfl rfl 0 (by decide) (hts (.fieldLink RX0 9 "BondDesk$Bond" "schedule" "LBondDesk$Schedule;") (by decide +kernel)) (fun _ h9 => h9) rfl dX0_worthAt_1 ?_
  refine lv_iload_n hx hb dX0_worthAt_4 rfl (lv_at hl 1 rfl) ?_
  obtain ⟨v1, hv1, hf⟩ := ob hf
  refine cSi (W.runV (As := [.int a0]) (rest := []) ⟨hx, hb, hml, hown, hts⟩ (m_X3_firstBehind l D cI cJ cO ah hs hd S T n ds a0 N v1 hv1) (cwV 1 hts gX0_worthAt_X3_firstBehind rfl rfl rfl (by decide +kernel) ⟨Nat.le_of_ble_eq_true rfl, Nat.le_of_ble_eq_true rfl⟩) ⟨pw_blind, va_recv hK hP (ci := 2) (q0 := 2) rfl rfl, fun U hU hW => ⟨rfl, pw_at hZ va_S.rf hP hK hU hW (Or.inr rfl) [0, 1, 2] rfl⟩⟩ rfl rfl hl.1 rfl (lv_room (Nat.le_of_ble_eq_true rfl)) dX0_worthAt_5 ⟨Nat.zero_le _, Nat.zero_le _⟩) ?_
  refine lv_istore (lv' := [(4, .int v1), (0, .ref ht), (1, .int a0), (2, .int a1), (3, .int a2)]) hx hb dX0_worthAt_8 hl (by decide) rfl (fun ls hl => ?_)
  refine lv_ldc2 hx hb hown (hts (.constantLong RX0 52 (10000)) (by decide +kernel)) dX0_worthAt_10 ?_
  refine lv_aload_n hx hb dX0_worthAt_13 rfl (lv_at hl 1 rfl) ?_
  refine va_get (D := D) (ci := 0) (v := .ref hs) (C := RX0) (T := TX0) (N := 9) hx hb hts inX0_worthAt_X0 hown hK hP 3 rfl rfl 0 (by decide) (hts (.fieldLink RX0 9 "BondDesk$Bond" "schedule" "LBondDesk$Schedule;") (by decide +kernel)) (fun _ h9 => h9) rfl dX0_worthAt_14 ?_
  refine va_get (D := D) (ci := 2) (v := .int (S 3)) (C := RX3) (T := TX3) (N := 9) hx hb hts inX0_worthAt_X3 hown hK hP 2 rfl rfl 3 (by decide) (hts (.fieldLink RX0 91 "BondDesk$Schedule" "perYear" "I") (by decide +kernel)) (fun _ h9 => h9) rfl dX0_worthAt_17 ?_
  refine lv_i2l hx hb dX0_worthAt_20 rfl ?_
  refine lv_lmul hx hb dX0_worthAt_21 ?_
  refine lv_topl (fun x2 ex2 => ?_)
  have hf := bd_s hf ex2
  refine lv_lstore (lv' := [(5, .long x2), (4, .int v1), (0, .ref ht), (1, .int a0), (2, .int a1), (3, .int a2)]) hx hb dX0_worthAt_22 hl (by decide) rfl (fun ls hl => ?_)
  refine lv_aload_n hx hb dX0_worthAt_24 rfl (lv_at hl 2 rfl) ?_
  obtain ⟨v3, hv3, hf⟩ := ob hf
  refine cSz (W.runV (As := []) (rest := []) ⟨hx, hb, hml, hown, hts⟩ (m_X0_isGone l D cI cJ cO ah ht hs hd B S T n ds v3 hv3) (cwV 0 hts gX0_worthAt_X0_isGone rfl rfl rfl (by decide +kernel) ⟨Nat.le_of_ble_eq_true rfl, Nat.le_of_ble_eq_true rfl⟩) ⟨pw_blind, va_recv hK hP (ci := 0) (q0 := 3) rfl rfl, fun U hU hW => ⟨rfl, pw_at hZ va_S.rf hP hK hU hW (Or.inr rfl) [0, 1, 2, 3] rfl⟩⟩ rfl rfl hl.1 rfl (lv_room (Nat.le_of_ble_eq_true rfl)) dX0_worthAt_25 ⟨Nat.zero_le _, Nat.zero_le _⟩) (fun zv3 => ?_)
  refine lv_if_ne (tgt := 55) hx hb dX0_worthAt_28 (by decide) (fun c4 => ?_) (fun c4 => ?_)
  · have hf := ie hf c4
    refine lv_lconst (v := 0) hx hb dX0_worthAt_55 (by decide) ?_
    exact W.lret hx hb hr (fun t ht _ => ⟨_, rfl, Option.some.inj hf, ht⟩) (fun q hq => absurd hq List.not_mem_nil) dX0_worthAt_56
  · have hf := it hf c4
    refine lv_iload hx hb dX0_worthAt_31 (lv_at hl 1 rfl) ?_
    refine lv_aload_n hx hb dX0_worthAt_33 rfl (lv_at hl 2 rfl) ?_
    refine va_get (D := D) (ci := 0) (v := .ref hs) (C := RX0) (T := TX0) (N := 9) hx hb hts inX0_worthAt_X0 hown hK hP 3 rfl rfl 0 (by decide) (hts (.fieldLink RX0 9 "BondDesk$Bond" "schedule" "LBondDesk$Schedule;") (by decide +kernel)) (fun _ h9 => h9) rfl dX0_worthAt_34 ?_
    refine va_get (D := D) (ci := 2) (v := .ref hd) (C := RX3) (T := TX3) (N := 9) hx hb hts inX0_worthAt_X3 hown hK hP 2 rfl rfl 6 (by decide) (hts (.fieldLink RX0 66 "BondDesk$Schedule" "dates" "[I") (by decide +kernel)) (fun _ h9 => h9) rfl dX0_worthAt_37 ?_
    refine va_alen (v := (nI n)) hx hb hK hP 1 0 rfl rfl rfl dX0_worthAt_40 ?_
    refine lv_icmp_ge (tgt := 55) hx hb dX0_worthAt_41 (by decide) (fun c5 => ?_) (fun c5 => ?_)
    · have hf := it hf c5
      refine lv_lconst (v := 0) hx hb dX0_worthAt_55 (by decide) ?_
      exact W.lret hx hb hr (fun t ht _ => ⟨_, rfl, Option.some.inj hf, ht⟩) (fun q hq => absurd hq List.not_mem_nil) dX0_worthAt_56
    · have hf := ie hf c5
      refine lv_lload hx hb dX0_worthAt_44 (lv_at hl 0 rfl) ?_
      refine lv_lconst (v := 0) hx hb dX0_worthAt_46 (by decide) ?_
      refine W.lcmp hx hb dX0_worthAt_47 ?_
      refine lv_if_le (tgt := 55) hx hb dX0_worthAt_48 (by decide) (fun c6 => ?_) (fun c6 => ?_)
      · have hf := it hf c6
        refine lv_lconst (v := 0) hx hb dX0_worthAt_55 (by decide) ?_
        exact W.lret hx hb hr (fun t ht _ => ⟨_, rfl, Option.some.inj hf, ht⟩) (fun q hq => absurd hq List.not_mem_nil) dX0_worthAt_56
      · have hf := ie hf c6
        refine lv_iload_n hx hb dX0_worthAt_51 rfl (lv_at hl 5 rfl) ?_
        refine lv_if_ge (tgt := 57) hx hb dX0_worthAt_52 (by decide) (fun c7 => ?_) (fun c7 => ?_)
        · have hf := it hf c7
          refine lv_ldc2 hx hb hown (hts (.constantLong RX0 94 (3650000)) (by decide +kernel)) dX0_worthAt_57 ?_
          refine lv_iload_n hx hb dX0_worthAt_60 rfl (lv_at hl 5 rfl) ?_
          refine lv_i2l hx hb dX0_worthAt_61 rfl ?_
          refine lv_iload_n hx hb dX0_worthAt_62 rfl (lv_at hl 3 rfl) ?_
          refine lv_aload_n hx hb dX0_worthAt_63 rfl (lv_at hl 2 rfl) ?_
          refine va_get (D := D) (ci := 0) (v := .ref hs) (C := RX0) (T := TX0) (N := 9) hx hb hts inX0_worthAt_X0 hown hK hP 3 rfl rfl 0 (by decide) (hts (.fieldLink RX0 9 "BondDesk$Bond" "schedule" "LBondDesk$Schedule;") (by decide +kernel)) (fun _ h9 => h9) rfl dX0_worthAt_64 ?_
          refine va_get (D := D) (ci := 2) (v := .ref hd) (C := RX3) (T := TX3) (N := 9) hx hb hts inX0_worthAt_X3 hown hK hP 2 rfl rfl 6 (by decide) (hts (.fieldLink RX0 66 "BondDesk$Schedule" "dates" "[I") (by decide +kernel)) (fun _ h9 => h9) rfl dX0_worthAt_67 ?_
          refine lv_iload hx hb dX0_worthAt_70 (lv_at hl 1 rfl) ?_
          obtain ⟨c8, hf⟩ := gd_s hf
          refine va_iald hx hb hK hP 1 0 rfl rfl c8 dX0_worthAt_72 ?_
          obtain ⟨v9, hv9, hf⟩ := ob hf
          refine cSi (W.runS (As := [.int a0, .int (ds v1.toNatClampNeg)]) (rest := [.long (a2.toInt64), .long 3650000]) ⟨hx, hb, hml, hown, hts⟩ (m_X1_daysBetween l D cI cJ cO ah a0 (ds v1.toNatClampNeg) v9 hv9) (va_cwS 2 hts gX0_worthAt_X1_daysBetween rfl rfl rfl (by decide +kernel) ⟨Nat.le_of_ble_eq_true rfl, Nat.le_of_ble_eq_true rfl⟩) ⟨pw_blind, fun U hU hW => ⟨rfl, pw_at hZ va_S.rf hP hK hU hW (Or.inr rfl) [0] rfl⟩⟩ rfl rfl hl.1 rfl (lv_room (Nat.le_of_ble_eq_true rfl)) dX0_worthAt_73 ⟨Nat.zero_le _, Nat.zero_le _⟩) ?_
          refine lv_i2l hx hb dX0_worthAt_76 rfl ?_
          refine lv_lmul hx hb dX0_worthAt_77 ?_
          refine lv_ladd hx hb dX0_worthAt_78 ?_
          refine lv_topl (fun x10 ex10 => ?_)
          have hf := bd_s hf ex10
          refine lv_lstore (lv' := [(7, .long x10), (5, .long x2), (4, .int v1), (0, .ref ht), (1, .int a0), (2, .int a1), (3, .int a2)]) hx hb dX0_worthAt_79 hl (by decide) rfl (fun ls hl => ?_)
          refine lv_lload hx hb dX0_worthAt_81 (lv_at hl 0 rfl) ?_
          refine lv_lconst (v := 0) hx hb dX0_worthAt_83 (by decide) ?_
          refine W.lcmp hx hb dX0_worthAt_84 ?_
          obtain ⟨K11, hK11, hf⟩ := jn_s hf
          have JK11 : ∀ (x12 : Int64) (ls : Array Slot), lv_has ls 14 [(0, .ref ht), (2, .int a1), (3, .int a2), (4, .int v1), (5, .long x2)] → K11 x12 = some r → W p l e (headSpec wsX0_worthAt ({ frames := 3, cells := 0, slots := 0, locals := 58 })).room s m ([.ref ht, .int a0, .int a1, .int a2] : List Value).toArray below meth c s.heap [] 0 0 (MQ below (QSl r) ([.ref ht, .int a0, .int a1, .int a2] : List Value).toArray s 0 0 (fun _ => False)) (F0 m 98 ls [.long x12]) := by
            intro x12 ls hl hf
            rw [hK11] at hf
            refine lv_lstore (lv' := [(9, .long x12), (0, .ref ht), (2, .int a1), (3, .int a2), (4, .int v1), (5, .long x2)]) hx hb dX0_worthAt_98 hl (by decide) rfl (fun ls hl => ?_)
            refine lv_lconst (v := 0) hx hb dX0_worthAt_100 (by decide) ?_
            refine lv_lstore (lv' := [(11, .long 0), (9, .long x12), (0, .ref ht), (2, .int a1), (3, .int a2), (4, .int v1), (5, .long x2)]) hx hb dX0_worthAt_101 hl (by decide) rfl (fun ls hl => ?_)
            refine lv_iload hx hb dX0_worthAt_103 (lv_at hl 5 rfl) ?_
            refine lv_istore (lv' := [(13, .int v1), (11, .long 0), (9, .long x12), (0, .ref ht), (2, .int a1), (3, .int a2), (4, .int v1), (5, .long x2)]) hx hb dX0_worthAt_105 hl (by decide) rfl (fun ls hl => ?_)
            have LP107 : ∀ (n17 : Nat) (x13 : Int32) (x14 : Int64) (x15 : Int64) (x16 : Int32) (ls : Array Slot), lv_has ls 14 [(0, .ref ht), (2, .int x13), (3, .int a2), (5, .long x2), (9, .long x14), (11, .long x15), (13, .int x16)] → f_X0_worthAt_L107 n S T ds B x2 a2 n17 x13 x14 x15 x16 = some r → W p l e (headSpec wsX0_worthAt ({ frames := 3, cells := 0, slots := 0, locals := 58 })).room s m ([.ref ht, .int a0, .int a1, .int a2] : List Value).toArray below meth c s.heap [] 0 0 (MQ below (QSl r) ([.ref ht, .int a0, .int a1, .int a2] : List Value).toArray s 0 0 (fun _ => False)) (F0 m 107 ls []) := by
              intro n17
              induction n17 with
              | zero => intro x13 x14 x15 x16 ls hl hf; exact (no_s hf).elim
              | succ n17 ih17 =>
                intro x13 x14 x15 x16 ls hl hf
                rw [f_X0_worthAt_L107] at hf
                refine lv_iload hx hb dX0_worthAt_107 (lv_at hl 6 rfl) ?_
                refine lv_aload_n hx hb dX0_worthAt_109 rfl (lv_at hl 0 rfl) ?_
                refine va_get (D := D) (ci := 0) (v := .ref hs) (C := RX0) (T := TX0) (N := 9) hx hb hts inX0_worthAt_X0 hown hK hP 3 rfl rfl 0 (by decide) (hts (.fieldLink RX0 9 "BondDesk$Bond" "schedule" "LBondDesk$Schedule;") (by decide +kernel)) (fun _ h9 => h9) rfl dX0_worthAt_110 ?_
                refine va_get (D := D) (ci := 2) (v := .ref hd) (C := RX3) (T := TX3) (N := 9) hx hb hts inX0_worthAt_X3 hown hK hP 2 rfl rfl 6 (by decide) (hts (.fieldLink RX0 66 "BondDesk$Schedule" "dates" "[I") (by decide +kernel)) (fun _ h9 => h9) rfl dX0_worthAt_113 ?_
                refine va_alen (v := (nI n)) hx hb hK hP 1 0 rfl rfl rfl dX0_worthAt_116 ?_
                refine lv_icmp_ge (tgt := 168) hx hb dX0_worthAt_117 (by decide) (fun c18 => ?_) (fun c18 => ?_)
                · have hf := it hf c18
                  refine lv_lload hx hb dX0_worthAt_168 (lv_at hl 5 rfl) ?_
                  exact W.lret hx hb hr (fun t ht _ => ⟨_, rfl, Option.some.inj hf, ht⟩) (fun q hq => absurd hq List.not_mem_nil) dX0_worthAt_170
                · have hf := ie hf c18
                  refine lv_lload hx hb dX0_worthAt_120 (lv_at hl 5 rfl) ?_
                  refine lv_aload_n hx hb dX0_worthAt_122 rfl (lv_at hl 0 rfl) ?_
                  refine lv_iload hx hb dX0_worthAt_123 (lv_at hl 6 rfl) ?_
                  refine lv_iload_n hx hb dX0_worthAt_125 rfl (lv_at hl 1 rfl) ?_
                  obtain ⟨v19, hv19, hf⟩ := ob hf
                  refine cSl (W.runV (As := [.int x16, .int x13]) (rest := [.long x15]) ⟨hx, hb, hml, hown, hts⟩ (m_X0_paymentOn l D cI cJ cO ah ht hs hd B S T n ds x16 x13 v19 hv19) (cwV 2 hts gX0_worthAt_X0_paymentOn rfl rfl rfl (by decide +kernel) ⟨Nat.le_of_ble_eq_true rfl, Nat.le_of_ble_eq_true rfl⟩) ⟨pw_blind, va_recv hK hP (ci := 0) (q0 := 3) rfl rfl, fun U hU hW => ⟨rfl, pw_at hZ va_S.rf hP hK hU hW (Or.inr rfl) [0, 1, 2, 3] rfl⟩⟩ rfl rfl hl.1 rfl (lv_room (Nat.le_of_ble_eq_true rfl)) dX0_worthAt_126 ⟨Nat.zero_le _, Nat.zero_le _⟩) ?_
                  refine lv_lload hx hb dX0_worthAt_129 (lv_at hl 4 rfl) ?_
                  refine lv_lmul hx hb dX0_worthAt_131 ?_
                  refine lv_ldc2 hx hb hown (hts (.constantLong RX0 105 (1000000000)) (by decide +kernel)) dX0_worthAt_132 ?_
                  refine lv_ldiv hx hb dX0_worthAt_135 (by decide) ?_
                  refine lv_ladd hx hb dX0_worthAt_136 ?_
                  refine lv_topl (fun x20 ex20 => ?_)
                  have hf := bd_s hf ex20
                  refine lv_lstore (lv' := [(11, .long x20), (0, .ref ht), (2, .int x13), (3, .int a2), (5, .long x2), (9, .long x14), (13, .int x16)]) hx hb dX0_worthAt_137 hl (by decide) rfl (fun ls hl => ?_)
                  refine lv_iload_n hx hb dX0_worthAt_139 rfl (lv_at hl 2 rfl) ?_
                  refine lv_aload_n hx hb dX0_worthAt_140 rfl (lv_at hl 1 rfl) ?_
                  refine lv_iload hx hb dX0_worthAt_141 (lv_at hl 6 rfl) ?_
                  refine lv_iload_n hx hb dX0_worthAt_143 rfl (lv_at hl 2 rfl) ?_
                  obtain ⟨v21, hv21, hf⟩ := ob hf
                  refine cSi (W.runV (As := [.int x16, .int x13]) (rest := [.int x13]) ⟨hx, hb, hml, hown, hts⟩ (m_X0_sunkOn l D cI cJ cO ah ht hs hd B S T n ds x16 x13 v21 hv21) (cwV 2 hts gX0_worthAt_X0_sunkOn rfl rfl rfl (by decide +kernel) ⟨Nat.le_of_ble_eq_true rfl, Nat.le_of_ble_eq_true rfl⟩) ⟨pw_blind, va_recv hK hP (ci := 0) (q0 := 3) rfl rfl, fun U hU hW => ⟨rfl, pw_at hZ va_S.rf hP hK hU hW (Or.inr rfl) [0, 1, 2, 3] rfl⟩⟩ rfl rfl hl.1 rfl (lv_room (Nat.le_of_ble_eq_true rfl)) dX0_worthAt_144 ⟨Nat.zero_le _, Nat.zero_le _⟩) ?_
                  refine lv_isub hx hb dX0_worthAt_147 ?_
                  refine lv_topi (fun x22 ex22 => ?_)
                  have hf := bd_s hf ex22
                  refine lv_istore_n (lv' := [(2, .int x22), (11, .long x20), (0, .ref ht), (3, .int a2), (5, .long x2), (9, .long x14), (13, .int x16)]) hx hb dX0_worthAt_148 rfl hl (by decide) rfl (fun ls hl => ?_)
                  refine lv_lload hx hb dX0_worthAt_149 (lv_at hl 5 rfl) ?_
                  refine lv_lload hx hb dX0_worthAt_151 (lv_at hl 4 rfl) ?_
                  refine lv_lmul hx hb dX0_worthAt_153 ?_
                  refine lv_lload hx hb dX0_worthAt_154 (lv_at hl 4 rfl) ?_
                  refine lv_iload_n hx hb dX0_worthAt_156 rfl (lv_at hl 3 rfl) ?_
                  refine lv_i2l hx hb dX0_worthAt_157 rfl ?_
                  refine lv_ladd hx hb dX0_worthAt_158 ?_
                  refine lv_topl (fun x23 ex23 => ?_)
                  have hf := bd_s hf ex23
                  obtain ⟨c24, hf⟩ := gd_s hf
                  refine lv_ldiv hx hb dX0_worthAt_159 c24 ?_
                  refine lv_topl (fun x25 ex25 => ?_)
                  have hf := bd_s hf ex25
                  refine lv_lstore (lv' := [(9, .long x25), (2, .int x22), (11, .long x20), (0, .ref ht), (3, .int a2), (5, .long x2), (13, .int x16)]) hx hb dX0_worthAt_160 hl (by decide) rfl (fun ls hl => ?_)
                  obtain ⟨x26, ex26⟩ : ∃ y : Int32, y = x16 + 1 := ⟨_, rfl⟩
                  have hf := bd_s hf ex26
                  refine lv_iinc (v := x26) (lv' := [(13, .int x26), (9, .long x25), (2, .int x22), (11, .long x20), (0, .ref ht), (3, .int a2), (5, .long x2)]) hx hb dX0_worthAt_162 hl (k := 6) rfl (by rw [ex26]; rfl) (by decide) rfl (fun ls hl => ?_)
                  refine lv_goto (tgt := 107) hx hb dX0_worthAt_165 (by decide) ?_
                  exact ih17 x22 x25 x20 x26 ls (lv_sub hl [4, 2, 5, 6, 1, 3, 0] rfl) hf
            exact LP107 N a1 x12 0 v1 ls (lv_sub hl [3, 4, 5, 7, 2, 1, 0] rfl) hf
          refine lv_if_gt (tgt := 92) hx hb dX0_worthAt_85 (by decide) (fun c27 => ?_) (fun c27 => ?_)
          · have hf := it hf c27
            refine lv_ldc2 hx hb hown (hts (.constantLong RX0 99 (3650000000000000)) (by decide +kernel)) dX0_worthAt_92 ?_
            refine lv_lload hx hb dX0_worthAt_95 (lv_at hl 0 rfl) ?_
            obtain ⟨c28, hf⟩ := gd_s hf
            refine lv_ldiv hx hb dX0_worthAt_97 c28 ?_
            exact JK11 (3650000000000000 / x10) ls (lv_sub hl [3, 5, 6, 2, 1] rfl) hf
          · have hf := ie hf c27
            refine lv_lconst (v := 0) hx hb dX0_worthAt_88 (by decide) ?_
            refine lv_goto (tgt := 98) hx hb dX0_worthAt_89 (by decide) ?_
            exact JK11 0 ls (lv_sub hl [3, 5, 6, 2, 1] rfl) hf
        · have hf := ie hf c7
          refine lv_lconst (v := 0) hx hb dX0_worthAt_55 (by decide) ?_
          exact W.lret hx hb hr (fun t ht _ => ⟨_, rfl, Option.some.inj hf, ht⟩) (fun q hq => absurd hq List.not_mem_nil) dX0_worthAt_56
def f_X0_greatestRate_L8 (a3 : Int32) (N : Nat) (S : Nat → Int32) (T : Nat → Int64) (n : Nat) (ds : Nat → Int32) (B : Nat → Int32) (a0 : Int32) (a1 : Int32) (a2 : Int64)  : Nat → Int32 → Int32 → Option Int32
  | 0, _, _ => none
  | n4 + 1, x2, x3 => (if x3 ≤ 0 then some x2 else (if a3 < (x2 + x3) then bd (x3 / 2 : Int32) fun x7 : Int32 => f_X0_greatestRate_L8 a3 N S T n ds B a0 a1 a2 n4 x2 x7 else (f_X0_worthAt N S T n ds B a0 a1 (x2 + x3)).bind fun v8 : Int64 => (if (lg_cmp v8 a2) < 0 then bd (x3 / 2 : Int32) fun x10 : Int32 => f_X0_greatestRate_L8 a3 N S T n ds B a0 a1 a2 n4 x2 x10 else bd (x2 + x3 : Int32) fun x11 : Int32 => bd (x3 / 2 : Int32) fun x12 : Int32 => f_X0_greatestRate_L8 a3 N S T n ds B a0 a1 a2 n4 x11 x12)))
def f_X0_greatestRate (N : Nat) (S : Nat → Int32) (T : Nat → Int64) (n : Nat) (ds : Nat → Int32) (B : Nat → Int32) (a0 : Int32) (a1 : Int32) (a2 : Int64) (a3 : Int32) : Option Int32 :=
  bd ((-1) : Int32) fun x1 : Int32 => f_X0_greatestRate_L8 a3 N S T n ds B a0 a1 a2 N x1 4096
set_option maxHeartbeats 4000000 in
set_option maxRecDepth 100000 in
theorem m_X0_greatestRate (l : Launch) (D : va_G) (cI cJ cO : ClassId) (ah : Nat) (ht hs hd : Nat) (B : Nat → Int32) (S : Nat → Int32) (T : Nat → Int64) (n : Nat) (ds : Nat → Int32) (a0 : Int32) (a1 : Int32) (a2 : Int64) (a3 : Int32) (N : Nat) (r : Int32) (hf : f_X0_greatestRate N S T n ds B a0 a1 a2 a3 = some r) : Met l yX0_greatestRate wsX0_greatestRate ({ frames := 4, cells := 0, slots := 0, locals := 91 }) (va_Pc [.ref ht, .int a0, .int a1, .long a2, .int a3] (pw D (ty3 cI cJ cO) (some ah) [eA cI ah, eD cI hd n ds, eS hs hd S T, eB ht hs B])) (QSi r) 0 0 (fun _ => False) := by
  refine Met.ofW (cc := cX0_greatestRate) (maxL := 8) (ret := (some .int)) (by decide) rfl ?_
  intro p e s m args below meth c s₁ Bd hml hv
  obtain ⟨rfl, hZ, hP, hK⟩ := hv
  have hx := Bd.exec
  have hb := Bd.bytes
  have hr := Bd.returns
  have hts := atoms_spec (ws := wsX0_greatestRate) Bd.pre
  have hown : s.vm.findClass RX0 = some m.cls := findClass_of_methodNamed Bd.named
  have hlocks := Bd.notSynchronized
  have hl := lv_entry ([.ref ht, .int a0, .int a1, .long a2, .int a3]) (n := 8) (Nat.le_of_ble_eq_true rfl)
  rw [lg_entry_eq]
  generalize (lg_sl ([.ref ht, .int a0, .int a1, .long a2, .int a3]) ++ List.replicate (8 - (lg_sl ([.ref ht, .int a0, .int a1, .long a2, .int a3])).length) Slot.unset).toArray = ls at hl ⊢
  have hl : lv_has ls 8 [(0, .ref ht), (1, .int a0), (2, .int a1), (3, .long a2), (5, .int a3)] := hl
  unfold f_X0_greatestRate at hf
  refine lv_iconst (v := (-1)) hx hb dX0_greatestRate_0 (by decide) ?_
  refine lv_topi (fun x1 ex1 => ?_)
  have hf := bd_s hf ex1
  refine lv_istore (lv' := [(6, .int x1), (0, .ref ht), (1, .int a0), (2, .int a1), (3, .long a2), (5, .int a3)]) hx hb dX0_greatestRate_1 hl (by decide) rfl (fun ls hl => ?_)
  refine lv_sipush (v := 4096) hx hb dX0_greatestRate_3 (by decide) ?_
  refine lv_istore (lv' := [(7, .int 4096), (6, .int x1), (0, .ref ht), (1, .int a0), (2, .int a1), (3, .long a2), (5, .int a3)]) hx hb dX0_greatestRate_6 hl (by decide) rfl (fun ls hl => ?_)
  have LP8 : ∀ (n4 : Nat) (x2 : Int32) (x3 : Int32) (ls : Array Slot), lv_has ls 8 [(0, .ref ht), (1, .int a0), (2, .int a1), (3, .long a2), (5, .int a3), (6, .int x2), (7, .int x3)] → f_X0_greatestRate_L8 a3 N S T n ds B a0 a1 a2 n4 x2 x3 = some r → W p l e (headSpec wsX0_greatestRate ({ frames := 4, cells := 0, slots := 0, locals := 91 })).room s m ([.ref ht, .int a0, .int a1, .long a2, .int a3] : List Value).toArray below meth c s.heap [] 0 0 (MQ below (QSi r) ([.ref ht, .int a0, .int a1, .long a2, .int a3] : List Value).toArray s 0 0 (fun _ => False)) (F0 m 8 ls []) := by
    intro n4
    induction n4 with
    | zero => intro x2 x3 ls hl hf; exact (no_s hf).elim
    | succ n4 ih4 =>
      intro x2 x3 ls hl hf
      rw [f_X0_greatestRate_L8] at hf
      refine lv_iload hx hb dX0_greatestRate_8 (lv_at hl 6 rfl) ?_
      refine lv_if_le (tgt := 55) hx hb dX0_greatestRate_10 (by decide) (fun c5 => ?_) (fun c5 => ?_)
      · have hf := it hf c5
        refine lv_iload hx hb dX0_greatestRate_55 (lv_at hl 5 rfl) ?_
        exact W.iret hx hb hr (fun t ht _ => ⟨_, rfl, Option.some.inj hf, ht⟩) (fun q hq => absurd hq List.not_mem_nil) dX0_greatestRate_57
      · have hf := ie hf c5
        refine lv_iload hx hb dX0_greatestRate_13 (lv_at hl 5 rfl) ?_
        refine lv_iload hx hb dX0_greatestRate_15 (lv_at hl 6 rfl) ?_
        refine lv_iadd hx hb dX0_greatestRate_17 ?_
        refine lv_iload hx hb dX0_greatestRate_18 (lv_at hl 4 rfl) ?_
        refine lv_icmp_gt (tgt := 46) hx hb dX0_greatestRate_20 (by decide) (fun c6 => ?_) (fun c6 => ?_)
        · have hf := it hf c6
          refine lv_iload hx hb dX0_greatestRate_46 (lv_at hl 6 rfl) ?_
          refine lv_iconst (v := 2) hx hb dX0_greatestRate_48 (by decide) ?_
          refine lv_idiv hx hb dX0_greatestRate_49 (by decide) ?_
          refine lv_topi (fun x7 ex7 => ?_)
          have hf := bd_s hf ex7
          refine lv_istore (lv' := [(7, .int x7), (0, .ref ht), (1, .int a0), (2, .int a1), (3, .long a2), (5, .int a3), (6, .int x2)]) hx hb dX0_greatestRate_50 hl (by decide) rfl (fun ls hl => ?_)
          refine lv_goto (tgt := 8) hx hb dX0_greatestRate_52 (by decide) ?_
          exact ih4 x2 x7 ls (lv_sub hl [1, 2, 3, 4, 5, 6, 0] rfl) hf
        · have hf := ie hf c6
          refine lv_aload_n hx hb dX0_greatestRate_23 rfl (lv_at hl 0 rfl) ?_
          refine lv_iload_n hx hb dX0_greatestRate_24 rfl (lv_at hl 1 rfl) ?_
          refine lv_iload_n hx hb dX0_greatestRate_25 rfl (lv_at hl 2 rfl) ?_
          refine lv_iload hx hb dX0_greatestRate_26 (lv_at hl 5 rfl) ?_
          refine lv_iload hx hb dX0_greatestRate_28 (lv_at hl 6 rfl) ?_
          refine lv_iadd hx hb dX0_greatestRate_30 ?_
          obtain ⟨v8, hv8, hf⟩ := ob hf
          refine cSl (W.runV (As := [.int a0, .int a1, .int (x2 + x3)]) (rest := []) ⟨hx, hb, hml, hown, hts⟩ (m_X0_worthAt l D cI cJ cO ah ht hs hd B S T n ds a0 a1 (x2 + x3) N v8 hv8) (cwV 3 hts gX0_greatestRate_X0_worthAt rfl rfl rfl (by decide +kernel) ⟨Nat.le_of_ble_eq_true rfl, Nat.le_of_ble_eq_true rfl⟩) ⟨pw_blind, va_recv hK hP (ci := 0) (q0 := 3) rfl rfl, fun U hU hW => ⟨rfl, pw_at hZ va_S.rf hP hK hU hW (Or.inr rfl) [0, 1, 2, 3] rfl⟩⟩ rfl rfl hl.1 rfl (lv_room (Nat.le_of_ble_eq_true rfl)) dX0_greatestRate_31 ⟨Nat.zero_le _, Nat.zero_le _⟩) ?_
          refine lv_lload_n hx hb dX0_greatestRate_34 rfl (lv_at hl 3 rfl) ?_
          refine W.lcmp hx hb dX0_greatestRate_35 ?_
          refine lv_if_lt (tgt := 46) hx hb dX0_greatestRate_36 (by decide) (fun c9 => ?_) (fun c9 => ?_)
          · have hf := it hf c9
            refine lv_iload hx hb dX0_greatestRate_46 (lv_at hl 6 rfl) ?_
            refine lv_iconst (v := 2) hx hb dX0_greatestRate_48 (by decide) ?_
            refine lv_idiv hx hb dX0_greatestRate_49 (by decide) ?_
            refine lv_topi (fun x10 ex10 => ?_)
            have hf := bd_s hf ex10
            refine lv_istore (lv' := [(7, .int x10), (0, .ref ht), (1, .int a0), (2, .int a1), (3, .long a2), (5, .int a3), (6, .int x2)]) hx hb dX0_greatestRate_50 hl (by decide) rfl (fun ls hl => ?_)
            refine lv_goto (tgt := 8) hx hb dX0_greatestRate_52 (by decide) ?_
            exact ih4 x2 x10 ls (lv_sub hl [1, 2, 3, 4, 5, 6, 0] rfl) hf
          · have hf := ie hf c9
            refine lv_iload hx hb dX0_greatestRate_39 (lv_at hl 5 rfl) ?_
            refine lv_iload hx hb dX0_greatestRate_41 (lv_at hl 6 rfl) ?_
            refine lv_iadd hx hb dX0_greatestRate_43 ?_
            refine lv_topi (fun x11 ex11 => ?_)
            have hf := bd_s hf ex11
            refine lv_istore (lv' := [(6, .int x11), (0, .ref ht), (1, .int a0), (2, .int a1), (3, .long a2), (5, .int a3), (7, .int x3)]) hx hb dX0_greatestRate_44 hl (by decide) rfl (fun ls hl => ?_)
            refine lv_iload hx hb dX0_greatestRate_46 (lv_at hl 6 rfl) ?_
            refine lv_iconst (v := 2) hx hb dX0_greatestRate_48 (by decide) ?_
            refine lv_idiv hx hb dX0_greatestRate_49 (by decide) ?_
            refine lv_topi (fun x12 ex12 => ?_)
            have hf := bd_s hf ex12
            refine lv_istore (lv' := [(7, .int x12), (6, .int x11), (0, .ref ht), (1, .int a0), (2, .int a1), (3, .long a2), (5, .int a3)]) hx hb dX0_greatestRate_50 hl (by decide) rfl (fun ls hl => ?_)
            refine lv_goto (tgt := 8) hx hb dX0_greatestRate_52 (by decide) ?_
            exact ih4 x11 x12 ls (lv_sub hl [2, 3, 4, 5, 6, 1, 0] rfl) hf
  exact LP8 N x1 4096 ls (lv_sub hl [2, 3, 4, 5, 6, 1, 0] rfl) hf
def f_X0_yieldAt (N : Nat) (S : Nat → Int32) (T : Nat → Int64) (n : Nat) (ds : Nat → Int32) (B : Nat → Int32) (a0 : Int32) (a1 : Int32) : Option Int32 :=
  (f_X0_isGone B).bind fun v1 : Int32 => (if v1 = 0 then (f_X0_fullPrice N S n ds B a0 a1).bind fun v3 : Int64 => (f_X0_greatestRate N S T n ds B a0 (B 1) v3 5000).bind fun v4 : Int32 => some v4 else some ((-1)))
theorem inX0_yieldAt_X0 : ∀ w ∈ wsX00, w ∈ wsX0_yieldAt := by decide +kernel
set_option maxHeartbeats 4000000 in
set_option maxRecDepth 100000 in
theorem m_X0_yieldAt (l : Launch) (D : va_G) (cI cJ cO : ClassId) (ah : Nat) (ht hs hd : Nat) (B : Nat → Int32) (S : Nat → Int32) (T : Nat → Int64) (n : Nat) (ds : Nat → Int32) (a0 : Int32) (a1 : Int32) (N : Nat) (r : Int32) (hf : f_X0_yieldAt N S T n ds B a0 a1 = some r) : Met l yX0_yieldAt wsX0_yieldAt ({ frames := 5, cells := 0, slots := 0, locals := 118 }) (va_Pc [.ref ht, .int a0, .int a1] (pw D (ty3 cI cJ cO) (some ah) [eA cI ah, eD cI hd n ds, eS hs hd S T, eB ht hs B])) (QSi r) 0 0 (fun _ => False) := by
  refine Met.ofW (cc := cX0_yieldAt) (maxL := 3) (ret := (some .int)) (by decide) rfl ?_
  intro p e s m args below meth c s₁ Bd hml hv
  obtain ⟨rfl, hZ, hP, hK⟩ := hv
  have hx := Bd.exec
  have hb := Bd.bytes
  have hr := Bd.returns
  have hts := atoms_spec (ws := wsX0_yieldAt) Bd.pre
  have hown : s.vm.findClass RX0 = some m.cls := findClass_of_methodNamed Bd.named
  have hlocks := Bd.notSynchronized
  have hl := lv_entry ([.ref ht, .int a0, .int a1]) (n := 3) (Nat.le_of_ble_eq_true rfl)
  rw [lg_entry_eq]
  generalize (lg_sl ([.ref ht, .int a0, .int a1]) ++ List.replicate (3 - (lg_sl ([.ref ht, .int a0, .int a1])).length) Slot.unset).toArray = ls at hl ⊢
  have hl : lv_has ls 3 [(0, .ref ht), (1, .int a0), (2, .int a1)] := hl
  unfold f_X0_yieldAt at hf
  refine lv_aload_n hx hb dX0_yieldAt_0 rfl (lv_at hl 0 rfl) ?_
  obtain ⟨v1, hv1, hf⟩ := ob hf
  refine cSz (W.runV (As := []) (rest := []) ⟨hx, hb, hml, hown, hts⟩ (m_X0_isGone l D cI cJ cO ah ht hs hd B S T n ds v1 hv1) (cwV 0 hts gX0_yieldAt_X0_isGone rfl rfl rfl (by decide +kernel) ⟨Nat.le_of_ble_eq_true rfl, Nat.le_of_ble_eq_true rfl⟩) ⟨pw_blind, va_recv hK hP (ci := 0) (q0 := 3) rfl rfl, fun U hU hW => ⟨rfl, pw_at hZ va_S.rf hP hK hU hW (Or.inr rfl) [0, 1, 2, 3] rfl⟩⟩ rfl rfl hl.1 rfl (lv_room (Nat.le_of_ble_eq_true rfl)) dX0_yieldAt_1 ⟨Nat.zero_le _, Nat.zero_le _⟩) (fun zv1 => ?_)
  refine lv_if_eq (tgt := 11) hx hb dX0_yieldAt_4 (by decide) (fun c2 => ?_) (fun c2 => ?_)
  · have hf := it hf c2
    refine lv_aload_n hx hb dX0_yieldAt_11 rfl (lv_at hl 0 rfl) ?_
    refine lv_iload_n hx hb dX0_yieldAt_12 rfl (lv_at hl 1 rfl) ?_
    refine lv_aload_n hx hb dX0_yieldAt_13 rfl (lv_at hl 0 rfl) ?_
    refine va_get (D := D) (ci := 0) (v := .int (B 1)) (C := RX0) (T := TX0) (N := 9) hx hb hts inX0_yieldAt_X0 hown hK hP 3 rfl rfl 1 (by decide) (hts (.fieldLink RX0 15 "BondDesk$Bond" "factor" "I") (by decide +kernel)) (fun _ h9 => h9) rfl dX0_yieldAt_14 ?_
    refine lv_aload_n hx hb dX0_yieldAt_17 rfl (lv_at hl 0 rfl) ?_
    refine lv_iload_n hx hb dX0_yieldAt_18 rfl (lv_at hl 1 rfl) ?_
    refine lv_iload_n hx hb dX0_yieldAt_19 rfl (lv_at hl 2 rfl) ?_
    obtain ⟨v3, hv3, hf⟩ := ob hf
    refine cSl (W.runV (As := [.int a0, .int a1]) (rest := [.int (B 1), .int a0, .ref ht]) ⟨hx, hb, hml, hown, hts⟩ (m_X0_fullPrice l D cI cJ cO ah ht hs hd B S T n ds a0 a1 N v3 hv3) (cwV 2 hts gX0_yieldAt_X0_fullPrice rfl rfl rfl (by decide +kernel) ⟨Nat.le_of_ble_eq_true rfl, Nat.le_of_ble_eq_true rfl⟩) ⟨pw_blind, va_recv hK hP (ci := 0) (q0 := 3) rfl rfl, fun U hU hW => ⟨rfl, pw_at hZ va_S.rf hP hK hU hW (Or.inr rfl) [0, 1, 2, 3] rfl⟩⟩ rfl rfl hl.1 rfl (lv_room (Nat.le_of_ble_eq_true rfl)) dX0_yieldAt_20 ⟨Nat.zero_le _, Nat.zero_le _⟩) ?_
    refine lv_sipush (v := 5000) hx hb dX0_yieldAt_23 (by decide) ?_
    obtain ⟨v4, hv4, hf⟩ := ob hf
    refine cSi (W.runV (As := [.int a0, .int (B 1), .long v3, .int 5000]) (rest := []) ⟨hx, hb, hml, hown, hts⟩ (m_X0_greatestRate l D cI cJ cO ah ht hs hd B S T n ds a0 (B 1) v3 5000 N v4 hv4) (cwV 4 hts gX0_yieldAt_X0_greatestRate rfl rfl rfl (by decide +kernel) ⟨Nat.le_of_ble_eq_true rfl, Nat.le_of_ble_eq_true rfl⟩) ⟨pw_blind, va_recv hK hP (ci := 0) (q0 := 3) rfl rfl, fun U hU hW => ⟨rfl, pw_at hZ va_S.rf hP hK hU hW (Or.inr rfl) [0, 1, 2, 3] rfl⟩⟩ rfl rfl hl.1 rfl (lv_room (Nat.le_of_ble_eq_true rfl)) dX0_yieldAt_26 ⟨Nat.zero_le _, Nat.zero_le _⟩) ?_
    exact W.iret hx hb hr (fun t ht _ => ⟨_, rfl, Option.some.inj hf, ht⟩) (fun q hq => absurd hq List.not_mem_nil) dX0_yieldAt_29
  · have hf := ie hf c2
    refine lv_iconst (v := (-1)) hx hb dX0_yieldAt_7 (by decide) ?_
    refine lv_goto (tgt := 29) hx hb dX0_yieldAt_8 (by decide) ?_
    exact W.iret hx hb hr (fun t ht _ => ⟨_, rfl, Option.some.inj hf, ht⟩) (fun q hq => absurd hq List.not_mem_nil) dX0_yieldAt_29
def f_X0_isCallDate (n : Nat) (ds : Nat → Int32) (B : Nat → Int32) (a0 : Int32) : Option Int32 :=
  (if (B 8) ≤ 0 then some 0 else (if a0 < 0 then some 0 else (if ((nI n) - 1) ≤ a0 then some 0 else gd (¬ (a0 < 0 ∨ n ≤ a0.toNatClampNeg)) ((if (ds a0.toNatClampNeg) < (B 7) then some 0 else some 1)))))
theorem inX0_isCallDate_X0 : ∀ w ∈ wsX00, w ∈ wsX0_isCallDate := by decide +kernel
theorem inX0_isCallDate_X3 : ∀ w ∈ wsX30, w ∈ wsX0_isCallDate := by decide +kernel
set_option maxHeartbeats 4000000 in
set_option maxRecDepth 100000 in
theorem m_X0_isCallDate (l : Launch) (D : va_G) (cI cJ cO : ClassId) (ah : Nat) (ht hs hd : Nat) (B : Nat → Int32) (S : Nat → Int32) (T : Nat → Int64) (n : Nat) (ds : Nat → Int32) (a0 : Int32) (r : Int32) (hf : f_X0_isCallDate n ds B a0 = some r) : Met l yX0_isCallDate wsX0_isCallDate ({ frames := 0, cells := 0, slots := 0, locals := 0 }) (va_Pc [.ref ht, .int a0] (pw D (ty3 cI cJ cO) (some ah) [eA cI ah, eD cI hd n ds, eS hs hd S T, eB ht hs B])) (QSz r) 0 0 (fun _ => False) := by
  refine Met.ofW (cc := cX0_isCallDate) (maxL := 2) (ret := (some .boolean)) (by decide) rfl ?_
  intro p e s m args below meth c s₁ Bd hml hv
  obtain ⟨rfl, hZ, hP, hK⟩ := hv
  have hx := Bd.exec
  have hb := Bd.bytes
  have hr := Bd.returns
  have hts := atoms_spec (ws := wsX0_isCallDate) Bd.pre
  have hown : s.vm.findClass RX0 = some m.cls := findClass_of_methodNamed Bd.named
  have hlocks := Bd.notSynchronized
  have hl := lv_entry ([.ref ht, .int a0]) (n := 2) (Nat.le_of_ble_eq_true rfl)
  rw [lg_entry_eq]
  generalize (lg_sl ([.ref ht, .int a0]) ++ List.replicate (2 - (lg_sl ([.ref ht, .int a0])).length) Slot.unset).toArray = ls at hl ⊢
  have hl : lv_has ls 2 [(0, .ref ht), (1, .int a0)] := hl
  unfold f_X0_isCallDate at hf
  refine lv_aload_n hx hb dX0_isCallDate_0 rfl (lv_at hl 0 rfl) ?_
  refine va_get (D := D) (ci := 0) (v := .int (B 8)) (C := RX0) (T := TX0) (N := 9) hx hb hts inX0_isCallDate_X0 hown hK hP 3 rfl rfl 8 (by decide) (hts (.fieldLink RX0 118 "BondDesk$Bond" "callPrice" "I") (by decide +kernel)) (fun _ h9 => h9) rfl dX0_isCallDate_1 ?_
  refine lv_if_le (tgt := 45) hx hb dX0_isCallDate_4 (by decide) (fun c1 => ?_) (fun c1 => ?_)
  · have hf := it hf c1
    refine lv_iconst (v := 0) hx hb dX0_isCallDate_45 (by decide) ?_
    exact W.zret hx hb hr (zn (Or.inl rfl)) (fun t ht _ => ⟨_, rfl, ⟨Option.some.inj hf, (Or.inl rfl)⟩, ht⟩) (fun q hq => absurd hq List.not_mem_nil) dX0_isCallDate_46
  · have hf := ie hf c1
    refine lv_iload_n hx hb dX0_isCallDate_7 rfl (lv_at hl 1 rfl) ?_
    refine lv_if_lt (tgt := 45) hx hb dX0_isCallDate_8 (by decide) (fun c2 => ?_) (fun c2 => ?_)
    · have hf := it hf c2
      refine lv_iconst (v := 0) hx hb dX0_isCallDate_45 (by decide) ?_
      exact W.zret hx hb hr (zn (Or.inl rfl)) (fun t ht _ => ⟨_, rfl, ⟨Option.some.inj hf, (Or.inl rfl)⟩, ht⟩) (fun q hq => absurd hq List.not_mem_nil) dX0_isCallDate_46
    · have hf := ie hf c2
      refine lv_iload_n hx hb dX0_isCallDate_11 rfl (lv_at hl 1 rfl) ?_
      refine lv_aload_n hx hb dX0_isCallDate_12 rfl (lv_at hl 0 rfl) ?_
      refine va_get (D := D) (ci := 0) (v := .ref hs) (C := RX0) (T := TX0) (N := 9) hx hb hts inX0_isCallDate_X0 hown hK hP 3 rfl rfl 0 (by decide) (hts (.fieldLink RX0 9 "BondDesk$Bond" "schedule" "LBondDesk$Schedule;") (by decide +kernel)) (fun _ h9 => h9) rfl dX0_isCallDate_13 ?_
      refine va_get (D := D) (ci := 2) (v := .ref hd) (C := RX3) (T := TX3) (N := 9) hx hb hts inX0_isCallDate_X3 hown hK hP 2 rfl rfl 6 (by decide) (hts (.fieldLink RX0 66 "BondDesk$Schedule" "dates" "[I") (by decide +kernel)) (fun _ h9 => h9) rfl dX0_isCallDate_16 ?_
      refine va_alen (v := (nI n)) hx hb hK hP 1 0 rfl rfl rfl dX0_isCallDate_19 ?_
      refine lv_iconst (v := 1) hx hb dX0_isCallDate_20 (by decide) ?_
      refine lv_isub hx hb dX0_isCallDate_21 ?_
      refine lv_icmp_ge (tgt := 45) hx hb dX0_isCallDate_22 (by decide) (fun c3 => ?_) (fun c3 => ?_)
      · have hf := it hf c3
        refine lv_iconst (v := 0) hx hb dX0_isCallDate_45 (by decide) ?_
        exact W.zret hx hb hr (zn (Or.inl rfl)) (fun t ht _ => ⟨_, rfl, ⟨Option.some.inj hf, (Or.inl rfl)⟩, ht⟩) (fun q hq => absurd hq List.not_mem_nil) dX0_isCallDate_46
      · have hf := ie hf c3
        refine lv_aload_n hx hb dX0_isCallDate_25 rfl (lv_at hl 0 rfl) ?_
        refine va_get (D := D) (ci := 0) (v := .ref hs) (C := RX0) (T := TX0) (N := 9) hx hb hts inX0_isCallDate_X0 hown hK hP 3 rfl rfl 0 (by decide) (hts (.fieldLink RX0 9 "BondDesk$Bond" "schedule" "LBondDesk$Schedule;") (by decide +kernel)) (fun _ h9 => h9) rfl dX0_isCallDate_26 ?_
        refine va_get (D := D) (ci := 2) (v := .ref hd) (C := RX3) (T := TX3) (N := 9) hx hb hts inX0_isCallDate_X3 hown hK hP 2 rfl rfl 6 (by decide) (hts (.fieldLink RX0 66 "BondDesk$Schedule" "dates" "[I") (by decide +kernel)) (fun _ h9 => h9) rfl dX0_isCallDate_29 ?_
        refine lv_iload_n hx hb dX0_isCallDate_32 rfl (lv_at hl 1 rfl) ?_
        obtain ⟨c4, hf⟩ := gd_s hf
        refine va_iald hx hb hK hP 1 0 rfl rfl c4 dX0_isCallDate_33 ?_
        refine lv_aload_n hx hb dX0_isCallDate_34 rfl (lv_at hl 0 rfl) ?_
        refine va_get (D := D) (ci := 0) (v := .int (B 7)) (C := RX0) (T := TX0) (N := 9) hx hb hts inX0_isCallDate_X0 hown hK hP 3 rfl rfl 7 (by decide) (hts (.fieldLink RX0 121 "BondDesk$Bond" "callFrom" "I") (by decide +kernel)) (fun _ h9 => h9) rfl dX0_isCallDate_35 ?_
        refine lv_icmp_lt (tgt := 45) hx hb dX0_isCallDate_38 (by decide) (fun c5 => ?_) (fun c5 => ?_)
        · have hf := it hf c5
          refine lv_iconst (v := 0) hx hb dX0_isCallDate_45 (by decide) ?_
          exact W.zret hx hb hr (zn (Or.inl rfl)) (fun t ht _ => ⟨_, rfl, ⟨Option.some.inj hf, (Or.inl rfl)⟩, ht⟩) (fun q hq => absurd hq List.not_mem_nil) dX0_isCallDate_46
        · have hf := ie hf c5
          refine lv_iconst (v := 1) hx hb dX0_isCallDate_41 (by decide) ?_
          refine lv_goto (tgt := 46) hx hb dX0_isCallDate_42 (by decide) ?_
          exact W.zret hx hb hr (zn (Or.inr rfl)) (fun t ht _ => ⟨_, rfl, ⟨Option.some.inj hf, (Or.inr rfl)⟩, ht⟩) (fun q hq => absurd hq List.not_mem_nil) dX0_isCallDate_46
def f_X0_callPayment (B : Nat → Int32) (a0 : Int32) : Option Int64 :=
  (f_X0_faceOf a0).bind fun v1 : Int64 => some ((v1 * ((B 8).toInt64)) / 10000)
theorem inX0_callPayment_X0 : ∀ w ∈ wsX00, w ∈ wsX0_callPayment := by decide +kernel
set_option maxHeartbeats 4000000 in
set_option maxRecDepth 100000 in
theorem m_X0_callPayment (l : Launch) (D : va_G) (cI cJ cO : ClassId) (ah : Nat) (ht hs hd : Nat) (B : Nat → Int32) (S : Nat → Int32) (T : Nat → Int64) (n : Nat) (ds : Nat → Int32) (a0 : Int32) (r : Int64) (hf : f_X0_callPayment B a0 = some r) : Met l yX0_callPayment wsX0_callPayment ({ frames := 1, cells := 0, slots := 0, locals := 20 }) (va_Pc [.ref ht, .int a0] (pw D (ty3 cI cJ cO) (some ah) [eA cI ah, eD cI hd n ds, eS hs hd S T, eB ht hs B])) (QSl r) 0 0 (fun _ => False) := by
  refine Met.ofW (cc := cX0_callPayment) (maxL := 2) (ret := (some .long)) (by decide) rfl ?_
  intro p e s m args below meth c s₁ Bd hml hv
  obtain ⟨rfl, hZ, hP, hK⟩ := hv
  have hx := Bd.exec
  have hb := Bd.bytes
  have hr := Bd.returns
  have hts := atoms_spec (ws := wsX0_callPayment) Bd.pre
  have hown : s.vm.findClass RX0 = some m.cls := findClass_of_methodNamed Bd.named
  have hlocks := Bd.notSynchronized
  have hl := lv_entry ([.ref ht, .int a0]) (n := 2) (Nat.le_of_ble_eq_true rfl)
  rw [lg_entry_eq]
  generalize (lg_sl ([.ref ht, .int a0]) ++ List.replicate (2 - (lg_sl ([.ref ht, .int a0])).length) Slot.unset).toArray = ls at hl ⊢
  have hl : lv_has ls 2 [(0, .ref ht), (1, .int a0)] := hl
  unfold f_X0_callPayment at hf
  refine lv_iload_n hx hb dX0_callPayment_0 rfl (lv_at hl 1 rfl) ?_
  obtain ⟨v1, hv1, hf⟩ := ob hf
  refine cSl (W.runS (As := [.int a0]) (rest := []) ⟨hx, hb, hml, hown, hts⟩ (m_X0_faceOf l D cI cJ cO ah a0 v1 hv1) (va_cwS 1 hts gX0_callPayment_X0_faceOf rfl rfl rfl (by decide +kernel) ⟨Nat.le_of_ble_eq_true rfl, Nat.le_of_ble_eq_true rfl⟩) ⟨pw_blind, fun U hU hW => ⟨rfl, pw_at hZ va_S.rf hP hK hU hW (Or.inr rfl) [] rfl⟩⟩ rfl rfl hl.1 rfl (lv_room (Nat.le_of_ble_eq_true rfl)) dX0_callPayment_1 ⟨Nat.zero_le _, Nat.zero_le _⟩) ?_
  refine lv_aload_n hx hb dX0_callPayment_4 rfl (lv_at hl 0 rfl) ?_
  refine va_get (D := D) (ci := 0) (v := .int (B 8)) (C := RX0) (T := TX0) (N := 9) hx hb hts inX0_callPayment_X0 hown hK hP 3 rfl rfl 8 (by decide) (hts (.fieldLink RX0 118 "BondDesk$Bond" "callPrice" "I") (by decide +kernel)) (fun _ h9 => h9) rfl dX0_callPayment_5 ?_
  refine lv_i2l hx hb dX0_callPayment_8 rfl ?_
  refine lv_lmul hx hb dX0_callPayment_9 ?_
  refine lv_ldc2 hx hb hown (hts (.constantLong RX0 52 (10000)) (by decide +kernel)) dX0_callPayment_10 ?_
  refine lv_ldiv hx hb dX0_callPayment_13 (by decide) ?_
  exact W.lret hx hb hr (fun t ht _ => ⟨_, rfl, Option.some.inj hf, ht⟩) (fun q hq => absurd hq List.not_mem_nil) dX0_callPayment_14
def f_X0_firstCall_L5 (n : Nat) (ds : Nat → Int32) (B : Nat → Int32)  : Nat → Int32 → Option Int32
  | 0, _ => none
  | n3 + 1, x2 => (if (nI n) ≤ x2 then some ((-1)) else (f_X0_isCallDate n ds B x2).bind fun v5 : Int32 => (if v5 = 0 then bd (x2 + 1) fun x7 : Int32 => f_X0_firstCall_L5 n ds B n3 x7 else some x2))
def f_X0_firstCall (N : Nat) (n : Nat) (ds : Nat → Int32) (B : Nat → Int32) : Option Int32 :=
  bd (B 3 : Int32) fun x1 : Int32 => f_X0_firstCall_L5 n ds B N x1
theorem inX0_firstCall_X0 : ∀ w ∈ wsX00, w ∈ wsX0_firstCall := by decide +kernel
theorem inX0_firstCall_X3 : ∀ w ∈ wsX30, w ∈ wsX0_firstCall := by decide +kernel
set_option maxHeartbeats 4000000 in
set_option maxRecDepth 100000 in
theorem m_X0_firstCall (l : Launch) (D : va_G) (cI cJ cO : ClassId) (ah : Nat) (ht hs hd : Nat) (B : Nat → Int32) (S : Nat → Int32) (T : Nat → Int64) (n : Nat) (ds : Nat → Int32) (N : Nat) (r : Int32) (hf : f_X0_firstCall N n ds B = some r) : Met l yX0_firstCall wsX0_firstCall ({ frames := 1, cells := 0, slots := 0, locals := 21 }) (va_Pc [.ref ht] (pw D (ty3 cI cJ cO) (some ah) [eA cI ah, eD cI hd n ds, eS hs hd S T, eB ht hs B])) (QSi r) 0 0 (fun _ => False) := by
  refine Met.ofW (cc := cX0_firstCall) (maxL := 2) (ret := (some .int)) (by decide) rfl ?_
  intro p e s m args below meth c s₁ Bd hml hv
  obtain ⟨rfl, hZ, hP, hK⟩ := hv
  have hx := Bd.exec
  have hb := Bd.bytes
  have hr := Bd.returns
  have hts := atoms_spec (ws := wsX0_firstCall) Bd.pre
  have hown : s.vm.findClass RX0 = some m.cls := findClass_of_methodNamed Bd.named
  have hlocks := Bd.notSynchronized
  have hl := lv_entry ([.ref ht]) (n := 2) (Nat.le_of_ble_eq_true rfl)
  rw [lg_entry_eq]
  generalize (lg_sl ([.ref ht]) ++ List.replicate (2 - (lg_sl ([.ref ht])).length) Slot.unset).toArray = ls at hl ⊢
  have hl : lv_has ls 2 [(0, .ref ht)] := hl
  unfold f_X0_firstCall at hf
  refine lv_aload_n hx hb dX0_firstCall_0 rfl (lv_at hl 0 rfl) ?_
  refine va_get (D := D) (ci := 0) (v := .int (B 3)) (C := RX0) (T := TX0) (N := 9) hx hb hts inX0_firstCall_X0 hown hK hP 3 rfl rfl 3 (by decide) (hts (.fieldLink RX0 25 "BondDesk$Bond" "next" "I") (by decide +kernel)) (fun _ h9 => h9) rfl dX0_firstCall_1 ?_
  refine lv_topi (fun x1 ex1 => ?_)
  have hf := bd_s hf ex1
  refine lv_istore_n (lv' := [(1, .int x1), (0, .ref ht)]) hx hb dX0_firstCall_4 rfl hl (by decide) rfl (fun ls hl => ?_)
  have LP5 : ∀ (n3 : Nat) (x2 : Int32) (ls : Array Slot), lv_has ls 2 [(0, .ref ht), (1, .int x2)] → f_X0_firstCall_L5 n ds B n3 x2 = some r → W p l e (headSpec wsX0_firstCall ({ frames := 1, cells := 0, slots := 0, locals := 21 })).room s m ([.ref ht] : List Value).toArray below meth c s.heap [] 0 0 (MQ below (QSi r) ([.ref ht] : List Value).toArray s 0 0 (fun _ => False)) (F0 m 5 ls []) := by
    intro n3
    induction n3 with
    | zero => intro x2 ls hl hf; exact (no_s hf).elim
    | succ n3 ih3 =>
      intro x2 ls hl hf
      rw [f_X0_firstCall_L5] at hf
      refine lv_iload_n hx hb dX0_firstCall_5 rfl (lv_at hl 1 rfl) ?_
      refine lv_aload_n hx hb dX0_firstCall_6 rfl (lv_at hl 0 rfl) ?_
      refine va_get (D := D) (ci := 0) (v := .ref hs) (C := RX0) (T := TX0) (N := 9) hx hb hts inX0_firstCall_X0 hown hK hP 3 rfl rfl 0 (by decide) (hts (.fieldLink RX0 9 "BondDesk$Bond" "schedule" "LBondDesk$Schedule;") (by decide +kernel)) (fun _ h9 => h9) rfl dX0_firstCall_7 ?_
      refine va_get (D := D) (ci := 2) (v := .ref hd) (C := RX3) (T := TX3) (N := 9) hx hb hts inX0_firstCall_X3 hown hK hP 2 rfl rfl 6 (by decide) (hts (.fieldLink RX0 66 "BondDesk$Schedule" "dates" "[I") (by decide +kernel)) (fun _ h9 => h9) rfl dX0_firstCall_10 ?_
      refine va_alen (v := (nI n)) hx hb hK hP 1 0 rfl rfl rfl dX0_firstCall_13 ?_
      refine lv_icmp_ge (tgt := 33) hx hb dX0_firstCall_14 (by decide) (fun c4 => ?_) (fun c4 => ?_)
      · have hf := it hf c4
        refine lv_iconst (v := (-1)) hx hb dX0_firstCall_33 (by decide) ?_
        exact W.iret hx hb hr (fun t ht _ => ⟨_, rfl, Option.some.inj hf, ht⟩) (fun q hq => absurd hq List.not_mem_nil) dX0_firstCall_34
      · have hf := ie hf c4
        refine lv_aload_n hx hb dX0_firstCall_17 rfl (lv_at hl 0 rfl) ?_
        refine lv_iload_n hx hb dX0_firstCall_18 rfl (lv_at hl 1 rfl) ?_
        obtain ⟨v5, hv5, hf⟩ := ob hf
        refine cSz (W.runV (As := [.int x2]) (rest := []) ⟨hx, hb, hml, hown, hts⟩ (m_X0_isCallDate l D cI cJ cO ah ht hs hd B S T n ds x2 v5 hv5) (cwV 1 hts gX0_firstCall_X0_isCallDate rfl rfl rfl (by decide +kernel) ⟨Nat.le_of_ble_eq_true rfl, Nat.le_of_ble_eq_true rfl⟩) ⟨pw_blind, va_recv hK hP (ci := 0) (q0 := 3) rfl rfl, fun U hU hW => ⟨rfl, pw_at hZ va_S.rf hP hK hU hW (Or.inr rfl) [0, 1, 2, 3] rfl⟩⟩ rfl rfl hl.1 rfl (lv_room (Nat.le_of_ble_eq_true rfl)) dX0_firstCall_19 ⟨Nat.zero_le _, Nat.zero_le _⟩) (fun zv5 => ?_)
        refine lv_if_eq (tgt := 27) hx hb dX0_firstCall_22 (by decide) (fun c6 => ?_) (fun c6 => ?_)
        · have hf := it hf c6
          obtain ⟨x7, ex7⟩ : ∃ y : Int32, y = x2 + 1 := ⟨_, rfl⟩
          have hf := bd_s hf ex7
          refine lv_iinc (v := x7) (lv' := [(1, .int x7), (0, .ref ht)]) hx hb dX0_firstCall_27 hl (k := 1) rfl (by rw [ex7]; rfl) (by decide) rfl (fun ls hl => ?_)
          refine lv_goto (tgt := 5) hx hb dX0_firstCall_30 (by decide) ?_
          exact ih3 x7 ls (lv_sub hl [1, 0] rfl) hf
        · have hf := ie hf c6
          refine lv_iload_n hx hb dX0_firstCall_25 rfl (lv_at hl 1 rfl) ?_
          exact W.iret hx hb hr (fun t ht _ => ⟨_, rfl, Option.some.inj hf, ht⟩) (fun q hq => absurd hq List.not_mem_nil) dX0_firstCall_26
  exact LP5 N x1 ls (lv_sub hl [1, 0] rfl) hf
def f_X0_rateOfCall (N : Nat) (S : Nat → Int32) (T : Nat → Int64) (n : Nat) (ds : Nat → Int32) (B : Nat → Int32) : Option Int32 :=
  (f_X0_isGone B).bind fun v1 : Int32 => jn (fun (x3 : Int32) => (f_X0_factorBehind N n ds B x3).bind fun v4 : Int32 => (if x3 < 0 then some ((-1)) else (if (nI n) ≤ x3 then some ((-1)) else (if v4 = 0 then some ((-1)) else gd (¬ (x3 < 0 ∨ n ≤ x3.toNatClampNeg)) ((f_X0_callPayment B v4).bind fun v9 : Int64 => (f_X0_greatestRate N S T n ds B (ds x3.toNatClampNeg) v4 (v9 + 1) 2000).bind fun v10 : Int32 => some v10))))) fun K2 => (if v1 = 0 then (f_X0_firstCall N n ds B).bind fun v12 : Int32 => K2 v12 else K2 ((-1)))
theorem inX0_rateOfCall_X0 : ∀ w ∈ wsX00, w ∈ wsX0_rateOfCall := by decide +kernel
theorem inX0_rateOfCall_X3 : ∀ w ∈ wsX30, w ∈ wsX0_rateOfCall := by decide +kernel
set_option maxHeartbeats 4000000 in
set_option maxRecDepth 100000 in
theorem m_X0_rateOfCall (l : Launch) (D : va_G) (cI cJ cO : ClassId) (ah : Nat) (ht hs hd : Nat) (B : Nat → Int32) (S : Nat → Int32) (T : Nat → Int64) (n : Nat) (ds : Nat → Int32) (N : Nat) (r : Int32) (hf : f_X0_rateOfCall N S T n ds B = some r) : Met l yX0_rateOfCall wsX0_rateOfCall ({ frames := 5, cells := 0, slots := 0, locals := 118 }) (va_Pc [.ref ht] (pw D (ty3 cI cJ cO) (some ah) [eA cI ah, eD cI hd n ds, eS hs hd S T, eB ht hs B])) (QSi r) 0 0 (fun _ => False) := by
  refine Met.ofW (cc := cX0_rateOfCall) (maxL := 3) (ret := (some .int)) (by decide) rfl ?_
  intro p e s m args below meth c s₁ Bd hml hv
  obtain ⟨rfl, hZ, hP, hK⟩ := hv
  have hx := Bd.exec
  have hb := Bd.bytes
  have hr := Bd.returns
  have hts := atoms_spec (ws := wsX0_rateOfCall) Bd.pre
  have hown : s.vm.findClass RX0 = some m.cls := findClass_of_methodNamed Bd.named
  have hlocks := Bd.notSynchronized
  have hl := lv_entry ([.ref ht]) (n := 3) (Nat.le_of_ble_eq_true rfl)
  rw [lg_entry_eq]
  generalize (lg_sl ([.ref ht]) ++ List.replicate (3 - (lg_sl ([.ref ht])).length) Slot.unset).toArray = ls at hl ⊢
  have hl : lv_has ls 3 [(0, .ref ht)] := hl
  unfold f_X0_rateOfCall at hf
  refine lv_aload_n hx hb dX0_rateOfCall_0 rfl (lv_at hl 0 rfl) ?_
  obtain ⟨v1, hv1, hf⟩ := ob hf
  refine cSz (W.runV (As := []) (rest := []) ⟨hx, hb, hml, hown, hts⟩ (m_X0_isGone l D cI cJ cO ah ht hs hd B S T n ds v1 hv1) (cwV 0 hts gX0_rateOfCall_X0_isGone rfl rfl rfl (by decide +kernel) ⟨Nat.le_of_ble_eq_true rfl, Nat.le_of_ble_eq_true rfl⟩) ⟨pw_blind, va_recv hK hP (ci := 0) (q0 := 3) rfl rfl, fun U hU hW => ⟨rfl, pw_at hZ va_S.rf hP hK hU hW (Or.inr rfl) [0, 1, 2, 3] rfl⟩⟩ rfl rfl hl.1 rfl (lv_room (Nat.le_of_ble_eq_true rfl)) dX0_rateOfCall_1 ⟨Nat.zero_le _, Nat.zero_le _⟩) (fun zv1 => ?_)
  obtain ⟨K2, hK2, hf⟩ := jn_s hf
  have JK2 : ∀ (x3 : Int32) (ls : Array Slot), lv_has ls 3 [(0, .ref ht)] → K2 x3 = some r → W p l e (headSpec wsX0_rateOfCall ({ frames := 5, cells := 0, slots := 0, locals := 118 })).room s m ([.ref ht] : List Value).toArray below meth c s.heap [] 0 0 (MQ below (QSi r) ([.ref ht] : List Value).toArray s 0 0 (fun _ => False)) (F0 m 15 ls [.int x3]) := by
    intro x3 ls hl hf
    rw [hK2] at hf
    refine lv_istore_n (lv' := [(1, .int x3), (0, .ref ht)]) hx hb dX0_rateOfCall_15 rfl hl (by decide) rfl (fun ls hl => ?_)
    refine lv_aload_n hx hb dX0_rateOfCall_16 rfl (lv_at hl 1 rfl) ?_
    refine lv_iload_n hx hb dX0_rateOfCall_17 rfl (lv_at hl 0 rfl) ?_
    obtain ⟨v4, hv4, hf⟩ := ob hf
    refine cSi (W.runV (As := [.int x3]) (rest := []) ⟨hx, hb, hml, hown, hts⟩ (m_X0_factorBehind l D cI cJ cO ah ht hs hd B S T n ds x3 N v4 hv4) (cwV 1 hts gX0_rateOfCall_X0_factorBehind rfl rfl rfl (by decide +kernel) ⟨Nat.le_of_ble_eq_true rfl, Nat.le_of_ble_eq_true rfl⟩) ⟨pw_blind, va_recv hK hP (ci := 0) (q0 := 3) rfl rfl, fun U hU hW => ⟨rfl, pw_at hZ va_S.rf hP hK hU hW (Or.inr rfl) [0, 1, 2, 3] rfl⟩⟩ rfl rfl hl.1 rfl (lv_room (Nat.le_of_ble_eq_true rfl)) dX0_rateOfCall_18 ⟨Nat.zero_le _, Nat.zero_le _⟩) ?_
    refine lv_istore_n (lv' := [(2, .int v4), (1, .int x3), (0, .ref ht)]) hx hb dX0_rateOfCall_21 rfl hl (by decide) rfl (fun ls hl => ?_)
    refine lv_iload_n hx hb dX0_rateOfCall_22 rfl (lv_at hl 1 rfl) ?_
    refine lv_if_lt (tgt := 42) hx hb dX0_rateOfCall_23 (by decide) (fun c5 => ?_) (fun c5 => ?_)
    · have hf := it hf c5
      refine lv_iconst (v := (-1)) hx hb dX0_rateOfCall_42 (by decide) ?_
      exact W.iret hx hb hr (fun t ht _ => ⟨_, rfl, Option.some.inj hf, ht⟩) (fun q hq => absurd hq List.not_mem_nil) dX0_rateOfCall_43
    · have hf := ie hf c5
      refine lv_iload_n hx hb dX0_rateOfCall_26 rfl (lv_at hl 1 rfl) ?_
      refine lv_aload_n hx hb dX0_rateOfCall_27 rfl (lv_at hl 2 rfl) ?_
      refine va_get (D := D) (ci := 0) (v := .ref hs) (C := RX0) (T := TX0) (N := 9) hx hb hts inX0_rateOfCall_X0 hown hK hP 3 rfl rfl 0 (by decide) (hts (.fieldLink RX0 9 "BondDesk$Bond" "schedule" "LBondDesk$Schedule;") (by decide +kernel)) (fun _ h9 => h9) rfl dX0_rateOfCall_28 ?_
      refine va_get (D := D) (ci := 2) (v := .ref hd) (C := RX3) (T := TX3) (N := 9) hx hb hts inX0_rateOfCall_X3 hown hK hP 2 rfl rfl 6 (by decide) (hts (.fieldLink RX0 66 "BondDesk$Schedule" "dates" "[I") (by decide +kernel)) (fun _ h9 => h9) rfl dX0_rateOfCall_31 ?_
      refine va_alen (v := (nI n)) hx hb hK hP 1 0 rfl rfl rfl dX0_rateOfCall_34 ?_
      refine lv_icmp_ge (tgt := 42) hx hb dX0_rateOfCall_35 (by decide) (fun c6 => ?_) (fun c6 => ?_)
      · have hf := it hf c6
        refine lv_iconst (v := (-1)) hx hb dX0_rateOfCall_42 (by decide) ?_
        exact W.iret hx hb hr (fun t ht _ => ⟨_, rfl, Option.some.inj hf, ht⟩) (fun q hq => absurd hq List.not_mem_nil) dX0_rateOfCall_43
      · have hf := ie hf c6
        refine lv_iload_n hx hb dX0_rateOfCall_38 rfl (lv_at hl 0 rfl) ?_
        refine lv_if_ne (tgt := 44) hx hb dX0_rateOfCall_39 (by decide) (fun c7 => ?_) (fun c7 => ?_)
        · have hf := ie hf c7
          refine lv_aload_n hx hb dX0_rateOfCall_44 rfl (lv_at hl 2 rfl) ?_
          refine lv_aload_n hx hb dX0_rateOfCall_45 rfl (lv_at hl 2 rfl) ?_
          refine va_get (D := D) (ci := 0) (v := .ref hs) (C := RX0) (T := TX0) (N := 9) hx hb hts inX0_rateOfCall_X0 hown hK hP 3 rfl rfl 0 (by decide) (hts (.fieldLink RX0 9 "BondDesk$Bond" "schedule" "LBondDesk$Schedule;") (by decide +kernel)) (fun _ h9 => h9) rfl dX0_rateOfCall_46 ?_
          refine va_get (D := D) (ci := 2) (v := .ref hd) (C := RX3) (T := TX3) (N := 9) hx hb hts inX0_rateOfCall_X3 hown hK hP 2 rfl rfl 6 (by decide) (hts (.fieldLink RX0 66 "BondDesk$Schedule" "dates" "[I") (by decide +kernel)) (fun _ h9 => h9) rfl dX0_rateOfCall_49 ?_
          refine lv_iload_n hx hb dX0_rateOfCall_52 rfl (lv_at hl 1 rfl) ?_
          obtain ⟨c8, hf⟩ := gd_s hf
          refine va_iald hx hb hK hP 1 0 rfl rfl c8 dX0_rateOfCall_53 ?_
          refine lv_iload_n hx hb dX0_rateOfCall_54 rfl (lv_at hl 0 rfl) ?_
          refine lv_aload_n hx hb dX0_rateOfCall_55 rfl (lv_at hl 2 rfl) ?_
          refine lv_iload_n hx hb dX0_rateOfCall_56 rfl (lv_at hl 0 rfl) ?_
          obtain ⟨v9, hv9, hf⟩ := ob hf
          refine cSl (W.runV (As := [.int v4]) (rest := [.int v4, .int (ds x3.toNatClampNeg), .ref ht]) ⟨hx, hb, hml, hown, hts⟩ (m_X0_callPayment l D cI cJ cO ah ht hs hd B S T n ds v4 v9 hv9) (cwV 1 hts gX0_rateOfCall_X0_callPayment rfl rfl rfl (by decide +kernel) ⟨Nat.le_of_ble_eq_true rfl, Nat.le_of_ble_eq_true rfl⟩) ⟨pw_blind, va_recv hK hP (ci := 0) (q0 := 3) rfl rfl, fun U hU hW => ⟨rfl, pw_at hZ va_S.rf hP hK hU hW (Or.inr rfl) [0, 1, 2, 3] rfl⟩⟩ rfl rfl hl.1 rfl (lv_room (Nat.le_of_ble_eq_true rfl)) dX0_rateOfCall_57 ⟨Nat.zero_le _, Nat.zero_le _⟩) ?_
          refine lv_lconst (v := 1) hx hb dX0_rateOfCall_60 (by decide) ?_
          refine lv_ladd hx hb dX0_rateOfCall_61 ?_
          refine lv_sipush (v := 2000) hx hb dX0_rateOfCall_62 (by decide) ?_
          obtain ⟨v10, hv10, hf⟩ := ob hf
          refine cSi (W.runV (As := [.int (ds x3.toNatClampNeg), .int v4, .long (v9 + 1), .int 2000]) (rest := []) ⟨hx, hb, hml, hown, hts⟩ (m_X0_greatestRate l D cI cJ cO ah ht hs hd B S T n ds (ds x3.toNatClampNeg) v4 (v9 + 1) 2000 N v10 hv10) (cwV 4 hts gX0_rateOfCall_X0_greatestRate rfl rfl rfl (by decide +kernel) ⟨Nat.le_of_ble_eq_true rfl, Nat.le_of_ble_eq_true rfl⟩) ⟨pw_blind, va_recv hK hP (ci := 0) (q0 := 3) rfl rfl, fun U hU hW => ⟨rfl, pw_at hZ va_S.rf hP hK hU hW (Or.inr rfl) [0, 1, 2, 3] rfl⟩⟩ rfl rfl hl.1 rfl (lv_room (Nat.le_of_ble_eq_true rfl)) dX0_rateOfCall_65 ⟨Nat.zero_le _, Nat.zero_le _⟩) ?_
          exact W.iret hx hb hr (fun t ht _ => ⟨_, rfl, Option.some.inj hf, ht⟩) (fun q hq => absurd hq List.not_mem_nil) dX0_rateOfCall_68
        · have hf := it hf c7
          refine lv_iconst (v := (-1)) hx hb dX0_rateOfCall_42 (by decide) ?_
          exact W.iret hx hb hr (fun t ht _ => ⟨_, rfl, Option.some.inj hf, ht⟩) (fun q hq => absurd hq List.not_mem_nil) dX0_rateOfCall_43
  refine lv_if_eq (tgt := 11) hx hb dX0_rateOfCall_4 (by decide) (fun c11 => ?_) (fun c11 => ?_)
  · have hf := it hf c11
    refine lv_aload_n hx hb dX0_rateOfCall_11 rfl (lv_at hl 0 rfl) ?_
    obtain ⟨v12, hv12, hf⟩ := ob hf
    refine cSi (W.runV (As := []) (rest := []) ⟨hx, hb, hml, hown, hts⟩ (m_X0_firstCall l D cI cJ cO ah ht hs hd B S T n ds N v12 hv12) (cwV 0 hts gX0_rateOfCall_X0_firstCall rfl rfl rfl (by decide +kernel) ⟨Nat.le_of_ble_eq_true rfl, Nat.le_of_ble_eq_true rfl⟩) ⟨pw_blind, va_recv hK hP (ci := 0) (q0 := 3) rfl rfl, fun U hU hW => ⟨rfl, pw_at hZ va_S.rf hP hK hU hW (Or.inr rfl) [0, 1, 2, 3] rfl⟩⟩ rfl rfl hl.1 rfl (lv_room (Nat.le_of_ble_eq_true rfl)) dX0_rateOfCall_12 ⟨Nat.zero_le _, Nat.zero_le _⟩) ?_
    exact JK2 v12 ls (lv_sub hl [0] rfl) hf
  · have hf := ie hf c11
    refine lv_iconst (v := (-1)) hx hb dX0_rateOfCall_7 (by decide) ?_
    refine lv_goto (tgt := 15) hx hb dX0_rateOfCall_8 (by decide) ?_
    exact JK2 ((-1)) ls (lv_sub hl [0] rfl) hf
def f_X0_paymentsIn_L18 (n : Nat) (ds : Nat → Int32) (B : Nat → Int32) (a0 : Int32) (S : Nat → Int32) (T : Nat → Int64)  : Nat → Int64 → Int32 → Int32 → Option Int64
  | 0, _, _, _ => none
  | n6 + 1, x3, x4, x5 => (if (nI n) ≤ x5 then some x3 else gd (¬ (x5 < 0 ∨ n ≤ x5.toNatClampNeg)) ((f_X1_yearOf (ds x5.toNatClampNeg)).bind fun v9 : Int32 => jn (fun (x11 : Int64) => (f_X0_sunkOn n ds B x5 x4).bind fun v12 : Int32 => bd (x4 - v12 : Int32) fun x13 : Int32 => bd (x5 + 1) fun x14 : Int32 => f_X0_paymentsIn_L18 n ds B a0 S T n6 x11 x13 x14) fun K10 => (if v9 = a0 then (f_X0_paymentOn S T n ds B x5 x4).bind fun v16 : Int64 => bd (x3 + v16 : Int64) fun x17 : Int64 => K10 x17 else K10 x3)))
def f_X0_paymentsIn (N : Nat) (S : Nat → Int32) (T : Nat → Int64) (n : Nat) (ds : Nat → Int32) (B : Nat → Int32) (a0 : Int32) (a1 : Int32) : Option Int64 :=
  bd (B 1 : Int32) fun x1 : Int32 => (f_X3_firstBehind N n ds a1).bind fun v2 : Int32 => f_X0_paymentsIn_L18 n ds B a0 S T N 0 x1 v2
theorem inX0_paymentsIn_X0 : ∀ w ∈ wsX00, w ∈ wsX0_paymentsIn := by decide +kernel
theorem inX0_paymentsIn_X3 : ∀ w ∈ wsX30, w ∈ wsX0_paymentsIn := by decide +kernel
set_option maxHeartbeats 4000000 in
set_option maxRecDepth 100000 in
theorem m_X0_paymentsIn (l : Launch) (D : va_G) (cI cJ cO : ClassId) (ah : Nat) (ht hs hd : Nat) (B : Nat → Int32) (S : Nat → Int32) (T : Nat → Int64) (n : Nat) (ds : Nat → Int32) (a0 : Int32) (a1 : Int32) (N : Nat) (r : Int64) (hf : f_X0_paymentsIn N S T n ds B a0 a1 = some r) : Met l yX0_paymentsIn wsX0_paymentsIn ({ frames := 3, cells := 0, slots := 0, locals := 58 }) (va_Pc [.ref ht, .int a0, .int a1] (pw D (ty3 cI cJ cO) (some ah) [eA cI ah, eD cI hd n ds, eS hs hd S T, eB ht hs B])) (QSl r) 0 0 (fun _ => False) := by
  refine Met.ofW (cc := cX0_paymentsIn) (maxL := 7) (ret := (some .long)) (by decide) rfl ?_
  intro p e s m args below meth c s₁ Bd hml hv
  obtain ⟨rfl, hZ, hP, hK⟩ := hv
  have hx := Bd.exec
  have hb := Bd.bytes
  have hr := Bd.returns
  have hts := atoms_spec (ws := wsX0_paymentsIn) Bd.pre
  have hown : s.vm.findClass RX0 = some m.cls := findClass_of_methodNamed Bd.named
  have hlocks := Bd.notSynchronized
  have hl := lv_entry ([.ref ht, .int a0, .int a1]) (n := 7) (Nat.le_of_ble_eq_true rfl)
  rw [lg_entry_eq]
  generalize (lg_sl ([.ref ht, .int a0, .int a1]) ++ List.replicate (7 - (lg_sl ([.ref ht, .int a0, .int a1])).length) Slot.unset).toArray = ls at hl ⊢
  have hl : lv_has ls 7 [(0, .ref ht), (1, .int a0), (2, .int a1)] := hl
  unfold f_X0_paymentsIn at hf
  refine lv_lconst (v := 0) hx hb dX0_paymentsIn_0 (by decide) ?_
  refine lv_lstore_n (lv' := [(3, .long 0), (0, .ref ht), (1, .int a0), (2, .int a1)]) hx hb dX0_paymentsIn_1 rfl hl (by decide) rfl (fun ls hl => ?_)
  refine lv_aload_n hx hb dX0_paymentsIn_2 rfl (lv_at hl 1 rfl) ?_
  refine va_get (D := D) (ci := 0) (v := .int (B 1)) (C := RX0) (T := TX0) (N := 9) hx hb hts inX0_paymentsIn_X0 hown hK hP 3 rfl rfl 1 (by decide) (hts (.fieldLink RX0 15 "BondDesk$Bond" "factor" "I") (by decide +kernel)) (fun _ h9 => h9) rfl dX0_paymentsIn_3 ?_
  refine lv_topi (fun x1 ex1 => ?_)
  have hf := bd_s hf ex1
  refine lv_istore (lv' := [(5, .int x1), (3, .long 0), (0, .ref ht), (1, .int a0), (2, .int a1)]) hx hb dX0_paymentsIn_6 hl (by decide) rfl (fun ls hl => ?_)
  refine lv_aload_n hx hb dX0_paymentsIn_8 rfl (lv_at hl 2 rfl) ?_
  refine va_get (D := D) (ci := 0) (v := .ref hs) (C := RX0) (T := TX0) (N := 9) hx hb hts inX0_paymentsIn_X0 hown hK hP 3 rfl rfl 0 (by decide) (hts (.fieldLink RX0 9 "BondDesk$Bond" "schedule" "LBondDesk$Schedule;") (by decide +kernel)) (fun _ h9 => h9) rfl dX0_paymentsIn_9 ?_
  refine lv_iload_n hx hb dX0_paymentsIn_12 rfl (lv_at hl 4 rfl) ?_
  obtain ⟨v2, hv2, hf⟩ := ob hf
  refine cSi (W.runV (As := [.int a1]) (rest := []) ⟨hx, hb, hml, hown, hts⟩ (m_X3_firstBehind l D cI cJ cO ah hs hd S T n ds a1 N v2 hv2) (cwV 1 hts gX0_paymentsIn_X3_firstBehind rfl rfl rfl (by decide +kernel) ⟨Nat.le_of_ble_eq_true rfl, Nat.le_of_ble_eq_true rfl⟩) ⟨pw_blind, va_recv hK hP (ci := 2) (q0 := 2) rfl rfl, fun U hU hW => ⟨rfl, pw_at hZ va_S.rf hP hK hU hW (Or.inr rfl) [0, 1, 2] rfl⟩⟩ rfl rfl hl.1 rfl (lv_room (Nat.le_of_ble_eq_true rfl)) dX0_paymentsIn_13 ⟨Nat.zero_le _, Nat.zero_le _⟩) ?_
  refine lv_istore (lv' := [(6, .int v2), (5, .int x1), (3, .long 0), (0, .ref ht), (1, .int a0), (2, .int a1)]) hx hb dX0_paymentsIn_16 hl (by decide) rfl (fun ls hl => ?_)
  have LP18 : ∀ (n6 : Nat) (x3 : Int64) (x4 : Int32) (x5 : Int32) (ls : Array Slot), lv_has ls 7 [(0, .ref ht), (1, .int a0), (3, .long x3), (5, .int x4), (6, .int x5)] → f_X0_paymentsIn_L18 n ds B a0 S T n6 x3 x4 x5 = some r → W p l e (headSpec wsX0_paymentsIn ({ frames := 3, cells := 0, slots := 0, locals := 58 })).room s m ([.ref ht, .int a0, .int a1] : List Value).toArray below meth c s.heap [] 0 0 (MQ below (QSl r) ([.ref ht, .int a0, .int a1] : List Value).toArray s 0 0 (fun _ => False)) (F0 m 18 ls []) := by
    intro n6
    induction n6 with
    | zero => intro x3 x4 x5 ls hl hf; exact (no_s hf).elim
    | succ n6 ih6 =>
      intro x3 x4 x5 ls hl hf
      rw [f_X0_paymentsIn_L18] at hf
      refine lv_iload hx hb dX0_paymentsIn_18 (lv_at hl 4 rfl) ?_
      refine lv_aload_n hx hb dX0_paymentsIn_20 rfl (lv_at hl 0 rfl) ?_
      refine va_get (D := D) (ci := 0) (v := .ref hs) (C := RX0) (T := TX0) (N := 9) hx hb hts inX0_paymentsIn_X0 hown hK hP 3 rfl rfl 0 (by decide) (hts (.fieldLink RX0 9 "BondDesk$Bond" "schedule" "LBondDesk$Schedule;") (by decide +kernel)) (fun _ h9 => h9) rfl dX0_paymentsIn_21 ?_
      refine va_get (D := D) (ci := 2) (v := .ref hd) (C := RX3) (T := TX3) (N := 9) hx hb hts inX0_paymentsIn_X3 hown hK hP 2 rfl rfl 6 (by decide) (hts (.fieldLink RX0 66 "BondDesk$Schedule" "dates" "[I") (by decide +kernel)) (fun _ h9 => h9) rfl dX0_paymentsIn_24 ?_
      refine va_alen (v := (nI n)) hx hb hK hP 1 0 rfl rfl rfl dX0_paymentsIn_27 ?_
      refine lv_icmp_ge (tgt := 78) hx hb dX0_paymentsIn_28 (by decide) (fun c7 => ?_) (fun c7 => ?_)
      · have hf := it hf c7
        refine lv_lload_n hx hb dX0_paymentsIn_78 rfl (lv_at hl 2 rfl) ?_
        exact W.lret hx hb hr (fun t ht _ => ⟨_, rfl, Option.some.inj hf, ht⟩) (fun q hq => absurd hq List.not_mem_nil) dX0_paymentsIn_79
      · have hf := ie hf c7
        refine lv_aload_n hx hb dX0_paymentsIn_31 rfl (lv_at hl 0 rfl) ?_
        refine va_get (D := D) (ci := 0) (v := .ref hs) (C := RX0) (T := TX0) (N := 9) hx hb hts inX0_paymentsIn_X0 hown hK hP 3 rfl rfl 0 (by decide) (hts (.fieldLink RX0 9 "BondDesk$Bond" "schedule" "LBondDesk$Schedule;") (by decide +kernel)) (fun _ h9 => h9) rfl dX0_paymentsIn_32 ?_
        refine va_get (D := D) (ci := 2) (v := .ref hd) (C := RX3) (T := TX3) (N := 9) hx hb hts inX0_paymentsIn_X3 hown hK hP 2 rfl rfl 6 (by decide) (hts (.fieldLink RX0 66 "BondDesk$Schedule" "dates" "[I") (by decide +kernel)) (fun _ h9 => h9) rfl dX0_paymentsIn_35 ?_
        refine lv_iload hx hb dX0_paymentsIn_38 (lv_at hl 4 rfl) ?_
        obtain ⟨c8, hf⟩ := gd_s hf
        refine va_iald hx hb hK hP 1 0 rfl rfl c8 dX0_paymentsIn_40 ?_
        obtain ⟨v9, hv9, hf⟩ := ob hf
        refine cSi (W.runS (As := [.int (ds x5.toNatClampNeg)]) (rest := []) ⟨hx, hb, hml, hown, hts⟩ (m_X1_yearOf l D cI cJ cO ah (ds x5.toNatClampNeg) v9 hv9) (va_cwS 1 hts gX0_paymentsIn_X1_yearOf rfl rfl rfl (by decide +kernel) ⟨Nat.le_of_ble_eq_true rfl, Nat.le_of_ble_eq_true rfl⟩) ⟨pw_blind, fun U hU hW => ⟨rfl, pw_at hZ va_S.rf hP hK hU hW (Or.inr rfl) [] rfl⟩⟩ rfl rfl hl.1 rfl (lv_room (Nat.le_of_ble_eq_true rfl)) dX0_paymentsIn_41 ⟨Nat.zero_le _, Nat.zero_le _⟩) ?_
        refine lv_iload_n hx hb dX0_paymentsIn_44 rfl (lv_at hl 1 rfl) ?_
        obtain ⟨K10, hK10, hf⟩ := jn_s hf
        have JK10 : ∀ (x11 : Int64) (ls : Array Slot), lv_has ls 7 [(0, .ref ht), (1, .int a0), (3, .long x11), (5, .int x4), (6, .int x5)] → K10 x11 = some r → W p l e (headSpec wsX0_paymentsIn ({ frames := 3, cells := 0, slots := 0, locals := 58 })).room s m ([.ref ht, .int a0, .int a1] : List Value).toArray below meth c s.heap [] 0 0 (MQ below (QSl r) ([.ref ht, .int a0, .int a1] : List Value).toArray s 0 0 (fun _ => False)) (F0 m 59 ls []) := by
          intro x11 ls hl hf
          rw [hK10] at hf
          refine lv_iload hx hb dX0_paymentsIn_59 (lv_at hl 3 rfl) ?_
          refine lv_aload_n hx hb dX0_paymentsIn_61 rfl (lv_at hl 0 rfl) ?_
          refine lv_iload hx hb dX0_paymentsIn_62 (lv_at hl 4 rfl) ?_
          refine lv_iload hx hb dX0_paymentsIn_64 (lv_at hl 3 rfl) ?_
          obtain ⟨v12, hv12, hf⟩ := ob hf
          refine cSi (W.runV (As := [.int x5, .int x4]) (rest := [.int x4]) ⟨hx, hb, hml, hown, hts⟩ (m_X0_sunkOn l D cI cJ cO ah ht hs hd B S T n ds x5 x4 v12 hv12) (cwV 2 hts gX0_paymentsIn_X0_sunkOn rfl rfl rfl (by decide +kernel) ⟨Nat.le_of_ble_eq_true rfl, Nat.le_of_ble_eq_true rfl⟩) ⟨pw_blind, va_recv hK hP (ci := 0) (q0 := 3) rfl rfl, fun U hU hW => ⟨rfl, pw_at hZ va_S.rf hP hK hU hW (Or.inr rfl) [0, 1, 2, 3] rfl⟩⟩ rfl rfl hl.1 rfl (lv_room (Nat.le_of_ble_eq_true rfl)) dX0_paymentsIn_66 ⟨Nat.zero_le _, Nat.zero_le _⟩) ?_
          refine lv_isub hx hb dX0_paymentsIn_69 ?_
          refine lv_topi (fun x13 ex13 => ?_)
          have hf := bd_s hf ex13
          refine lv_istore (lv' := [(5, .int x13), (0, .ref ht), (1, .int a0), (3, .long x11), (6, .int x5)]) hx hb dX0_paymentsIn_70 hl (by decide) rfl (fun ls hl => ?_)
          obtain ⟨x14, ex14⟩ : ∃ y : Int32, y = x5 + 1 := ⟨_, rfl⟩
          have hf := bd_s hf ex14
          refine lv_iinc (v := x14) (lv' := [(6, .int x14), (5, .int x13), (0, .ref ht), (1, .int a0), (3, .long x11)]) hx hb dX0_paymentsIn_72 hl (k := 4) rfl (by rw [ex14]; rfl) (by decide) rfl (fun ls hl => ?_)
          refine lv_goto (tgt := 18) hx hb dX0_paymentsIn_75 (by decide) ?_
          exact ih6 x11 x13 x14 ls (lv_sub hl [2, 3, 4, 1, 0] rfl) hf
        refine lv_icmp_ne (tgt := 59) hx hb dX0_paymentsIn_45 (by decide) (fun c15 => ?_) (fun c15 => ?_)
        · have hf := ie hf c15
          exact JK10 x3 ls (lv_sub hl [0, 1, 2, 3, 4] rfl) hf
        · have hf := it hf c15
          refine lv_lload_n hx hb dX0_paymentsIn_48 rfl (lv_at hl 2 rfl) ?_
          refine lv_aload_n hx hb dX0_paymentsIn_49 rfl (lv_at hl 0 rfl) ?_
          refine lv_iload hx hb dX0_paymentsIn_50 (lv_at hl 4 rfl) ?_
          refine lv_iload hx hb dX0_paymentsIn_52 (lv_at hl 3 rfl) ?_
          obtain ⟨v16, hv16, hf⟩ := ob hf
          refine cSl (W.runV (As := [.int x5, .int x4]) (rest := [.long x3]) ⟨hx, hb, hml, hown, hts⟩ (m_X0_paymentOn l D cI cJ cO ah ht hs hd B S T n ds x5 x4 v16 hv16) (cwV 2 hts gX0_paymentsIn_X0_paymentOn rfl rfl rfl (by decide +kernel) ⟨Nat.le_of_ble_eq_true rfl, Nat.le_of_ble_eq_true rfl⟩) ⟨pw_blind, va_recv hK hP (ci := 0) (q0 := 3) rfl rfl, fun U hU hW => ⟨rfl, pw_at hZ va_S.rf hP hK hU hW (Or.inr rfl) [0, 1, 2, 3] rfl⟩⟩ rfl rfl hl.1 rfl (lv_room (Nat.le_of_ble_eq_true rfl)) dX0_paymentsIn_54 ⟨Nat.zero_le _, Nat.zero_le _⟩) ?_
          refine lv_ladd hx hb dX0_paymentsIn_57 ?_
          refine lv_topl (fun x17 ex17 => ?_)
          have hf := bd_s hf ex17
          refine lv_lstore_n (lv' := [(3, .long x17), (0, .ref ht), (1, .int a0), (5, .int x4), (6, .int x5)]) hx hb dX0_paymentsIn_58 rfl hl (by decide) rfl (fun ls hl => ?_)
          exact JK10 x17 ls (lv_sub hl [1, 2, 0, 3, 4] rfl) hf
  exact LP18 N 0 x1 v2 ls (lv_sub hl [3, 4, 2, 1, 0] rfl) hf
def f_X0_tell (S : Nat → Int32) (n : Nat) (B : Nat → Int32) (a0 : Int32) : Option Int32 :=
  (if a0 = 0 then some (S 0) else (if a0 = 1 then some (S 1) else (if a0 = 2 then some (S 2) else (if a0 = 3 then some (S 3) else (if a0 = 4 then some (S 4) else (if a0 = 5 then some (B 1) else (if a0 = 6 then (f_X0_face B).bind fun v8 : Int64 => some (v8.toInt32) else (if a0 = 7 then some (nI n) else (if a0 = 8 then (f_X0_isGone B).bind fun v11 : Int32 => (if v11 = 0 then some (B 3) else some ((-1))) else (if a0 = 9 then some (B 2) else some (B 4)))))))))))
theorem inX0_tell_X0 : ∀ w ∈ wsX00, w ∈ wsX0_tell := by decide +kernel
theorem inX0_tell_X3 : ∀ w ∈ wsX30, w ∈ wsX0_tell := by decide +kernel
set_option maxHeartbeats 4000000 in
set_option maxRecDepth 100000 in
theorem m_X0_tell (l : Launch) (D : va_G) (cI cJ cO : ClassId) (ah : Nat) (ht hs hd : Nat) (B : Nat → Int32) (S : Nat → Int32) (T : Nat → Int64) (n : Nat) (ds : Nat → Int32) (a0 : Int32) (r : Int32) (hf : f_X0_tell S n B a0 = some r) : Met l yX0_tell wsX0_tell ({ frames := 2, cells := 0, slots := 0, locals := 40 }) (va_Pc [.ref ht, .int a0] (pw D (ty3 cI cJ cO) (some ah) [eA cI ah, eD cI hd n ds, eS hs hd S T, eB ht hs B])) (QSi r) 0 0 (fun _ => False) := by
  refine Met.ofW (cc := cX0_tell) (maxL := 2) (ret := (some .int)) (by decide) rfl ?_
  intro p e s m args below meth c s₁ Bd hml hv
  obtain ⟨rfl, hZ, hP, hK⟩ := hv
  have hx := Bd.exec
  have hb := Bd.bytes
  have hr := Bd.returns
  have hts := atoms_spec (ws := wsX0_tell) Bd.pre
  have hown : s.vm.findClass RX0 = some m.cls := findClass_of_methodNamed Bd.named
  have hlocks := Bd.notSynchronized
  have hl := lv_entry ([.ref ht, .int a0]) (n := 2) (Nat.le_of_ble_eq_true rfl)
  rw [lg_entry_eq]
  generalize (lg_sl ([.ref ht, .int a0]) ++ List.replicate (2 - (lg_sl ([.ref ht, .int a0])).length) Slot.unset).toArray = ls at hl ⊢
  have hl : lv_has ls 2 [(0, .ref ht), (1, .int a0)] := hl
  unfold f_X0_tell at hf
  refine lv_iload_n hx hb dX0_tell_0 rfl (lv_at hl 1 rfl) ?_
  by_cases c1 : a0 = 0
  · have hf := it hf c1
    refine lv_tableIn (off := 55) (tgt := 56) hx hb dX0_tell_1 (by rw [c1]; decide) (by rw [c1]; decide) (by rw [c1]; rfl) (by decide) ?_
    refine lv_aload_n hx hb dX0_tell_56 rfl (lv_at hl 0 rfl) ?_
    refine va_get (D := D) (ci := 0) (v := .ref hs) (C := RX0) (T := TX0) (N := 9) hx hb hts inX0_tell_X0 hown hK hP 3 rfl rfl 0 (by decide) (hts (.fieldLink RX0 9 "BondDesk$Bond" "schedule" "LBondDesk$Schedule;") (by decide +kernel)) (fun _ h9 => h9) rfl dX0_tell_57 ?_
    refine va_get (D := D) (ci := 2) (v := .int (S 0)) (C := RX3) (T := TX3) (N := 9) hx hb hts inX0_tell_X3 hown hK hP 2 rfl rfl 0 (by decide) (hts (.fieldLink RX0 31 "BondDesk$Schedule" "issue" "I") (by decide +kernel)) (fun _ h9 => h9) rfl dX0_tell_60 ?_
    exact W.iret hx hb hr (fun t ht _ => ⟨_, rfl, Option.some.inj hf, ht⟩) (fun q hq => absurd hq List.not_mem_nil) dX0_tell_63
  have hf := ie hf c1
  by_cases c2 : a0 = 1
  · have hf := it hf c2
    refine lv_tableIn (off := 63) (tgt := 64) hx hb dX0_tell_1 (by rw [c2]; decide) (by rw [c2]; decide) (by rw [c2]; rfl) (by decide) ?_
    refine lv_aload_n hx hb dX0_tell_64 rfl (lv_at hl 0 rfl) ?_
    refine va_get (D := D) (ci := 0) (v := .ref hs) (C := RX0) (T := TX0) (N := 9) hx hb hts inX0_tell_X0 hown hK hP 3 rfl rfl 0 (by decide) (hts (.fieldLink RX0 9 "BondDesk$Bond" "schedule" "LBondDesk$Schedule;") (by decide +kernel)) (fun _ h9 => h9) rfl dX0_tell_65 ?_
    refine va_get (D := D) (ci := 2) (v := .int (S 1)) (C := RX3) (T := TX3) (N := 9) hx hb hts inX0_tell_X3 hown hK hP 2 rfl rfl 1 (by decide) (hts (.fieldLink RX0 42 "BondDesk$Schedule" "end" "I") (by decide +kernel)) (fun _ h9 => h9) rfl dX0_tell_68 ?_
    exact W.iret hx hb hr (fun t ht _ => ⟨_, rfl, Option.some.inj hf, ht⟩) (fun q hq => absurd hq List.not_mem_nil) dX0_tell_71
  have hf := ie hf c2
  by_cases c3 : a0 = 2
  · have hf := it hf c3
    refine lv_tableIn (off := 71) (tgt := 72) hx hb dX0_tell_1 (by rw [c3]; decide) (by rw [c3]; decide) (by rw [c3]; rfl) (by decide) ?_
    refine lv_aload_n hx hb dX0_tell_72 rfl (lv_at hl 0 rfl) ?_
    refine va_get (D := D) (ci := 0) (v := .ref hs) (C := RX0) (T := TX0) (N := 9) hx hb hts inX0_tell_X0 hown hK hP 3 rfl rfl 0 (by decide) (hts (.fieldLink RX0 9 "BondDesk$Bond" "schedule" "LBondDesk$Schedule;") (by decide +kernel)) (fun _ h9 => h9) rfl dX0_tell_73 ?_
    refine va_get (D := D) (ci := 2) (v := .int (S 2)) (C := RX3) (T := TX3) (N := 9) hx hb hts inX0_tell_X3 hown hK hP 2 rfl rfl 2 (by decide) (hts (.fieldLink RX0 163 "BondDesk$Schedule" "rate" "I") (by decide +kernel)) (fun _ h9 => h9) rfl dX0_tell_76 ?_
    exact W.iret hx hb hr (fun t ht _ => ⟨_, rfl, Option.some.inj hf, ht⟩) (fun q hq => absurd hq List.not_mem_nil) dX0_tell_79
  have hf := ie hf c3
  by_cases c4 : a0 = 3
  · have hf := it hf c4
    refine lv_tableIn (off := 79) (tgt := 80) hx hb dX0_tell_1 (by rw [c4]; decide) (by rw [c4]; decide) (by rw [c4]; rfl) (by decide) ?_
    refine lv_aload_n hx hb dX0_tell_80 rfl (lv_at hl 0 rfl) ?_
    refine va_get (D := D) (ci := 0) (v := .ref hs) (C := RX0) (T := TX0) (N := 9) hx hb hts inX0_tell_X0 hown hK hP 3 rfl rfl 0 (by decide) (hts (.fieldLink RX0 9 "BondDesk$Bond" "schedule" "LBondDesk$Schedule;") (by decide +kernel)) (fun _ h9 => h9) rfl dX0_tell_81 ?_
    refine va_get (D := D) (ci := 2) (v := .int (S 3)) (C := RX3) (T := TX3) (N := 9) hx hb hts inX0_tell_X3 hown hK hP 2 rfl rfl 3 (by decide) (hts (.fieldLink RX0 91 "BondDesk$Schedule" "perYear" "I") (by decide +kernel)) (fun _ h9 => h9) rfl dX0_tell_84 ?_
    exact W.iret hx hb hr (fun t ht _ => ⟨_, rfl, Option.some.inj hf, ht⟩) (fun q hq => absurd hq List.not_mem_nil) dX0_tell_87
  have hf := ie hf c4
  by_cases c5 : a0 = 4
  · have hf := it hf c5
    refine lv_tableIn (off := 87) (tgt := 88) hx hb dX0_tell_1 (by rw [c5]; decide) (by rw [c5]; decide) (by rw [c5]; rfl) (by decide) ?_
    refine lv_aload_n hx hb dX0_tell_88 rfl (lv_at hl 0 rfl) ?_
    refine va_get (D := D) (ci := 0) (v := .ref hs) (C := RX0) (T := TX0) (N := 9) hx hb hts inX0_tell_X0 hown hK hP 3 rfl rfl 0 (by decide) (hts (.fieldLink RX0 9 "BondDesk$Bond" "schedule" "LBondDesk$Schedule;") (by decide +kernel)) (fun _ h9 => h9) rfl dX0_tell_89 ?_
    refine va_get (D := D) (ci := 2) (v := .int (S 4)) (C := RX3) (T := TX3) (N := 9) hx hb hts inX0_tell_X3 hown hK hP 2 rfl rfl 4 (by decide) (hts (.fieldLink RX0 166 "BondDesk$Schedule" "way" "I") (by decide +kernel)) (fun _ h9 => h9) rfl dX0_tell_92 ?_
    exact W.iret hx hb hr (fun t ht _ => ⟨_, rfl, Option.some.inj hf, ht⟩) (fun q hq => absurd hq List.not_mem_nil) dX0_tell_95
  have hf := ie hf c5
  by_cases c6 : a0 = 5
  · have hf := it hf c6
    refine lv_tableIn (off := 95) (tgt := 96) hx hb dX0_tell_1 (by rw [c6]; decide) (by rw [c6]; decide) (by rw [c6]; rfl) (by decide) ?_
    refine lv_aload_n hx hb dX0_tell_96 rfl (lv_at hl 0 rfl) ?_
    refine va_get (D := D) (ci := 0) (v := .int (B 1)) (C := RX0) (T := TX0) (N := 9) hx hb hts inX0_tell_X0 hown hK hP 3 rfl rfl 1 (by decide) (hts (.fieldLink RX0 15 "BondDesk$Bond" "factor" "I") (by decide +kernel)) (fun _ h9 => h9) rfl dX0_tell_97 ?_
    exact W.iret hx hb hr (fun t ht _ => ⟨_, rfl, Option.some.inj hf, ht⟩) (fun q hq => absurd hq List.not_mem_nil) dX0_tell_100
  have hf := ie hf c6
  by_cases c7 : a0 = 6
  · have hf := it hf c7
    refine lv_tableIn (off := 100) (tgt := 101) hx hb dX0_tell_1 (by rw [c7]; decide) (by rw [c7]; decide) (by rw [c7]; rfl) (by decide) ?_
    refine lv_aload_n hx hb dX0_tell_101 rfl (lv_at hl 0 rfl) ?_
    obtain ⟨v8, hv8, hf⟩ := ob hf
    refine cSl (W.runV (As := []) (rest := []) ⟨hx, hb, hml, hown, hts⟩ (m_X0_face l D cI cJ cO ah ht hs hd B S T n ds v8 hv8) (cwV 0 hts gX0_tell_X0_face rfl rfl rfl (by decide +kernel) ⟨Nat.le_of_ble_eq_true rfl, Nat.le_of_ble_eq_true rfl⟩) ⟨pw_blind, va_recv hK hP (ci := 0) (q0 := 3) rfl rfl, fun U hU hW => ⟨rfl, pw_at hZ va_S.rf hP hK hU hW (Or.inr rfl) [0, 1, 2, 3] rfl⟩⟩ rfl rfl hl.1 rfl (lv_room (Nat.le_of_ble_eq_true rfl)) dX0_tell_102 ⟨Nat.zero_le _, Nat.zero_le _⟩) ?_
    refine lv_l2i hx hb dX0_tell_105 rfl ?_
    exact W.iret hx hb hr (fun t ht _ => ⟨_, rfl, Option.some.inj hf, ht⟩) (fun q hq => absurd hq List.not_mem_nil) dX0_tell_106
  have hf := ie hf c7
  by_cases c9 : a0 = 7
  · have hf := it hf c9
    refine lv_tableIn (off := 106) (tgt := 107) hx hb dX0_tell_1 (by rw [c9]; decide) (by rw [c9]; decide) (by rw [c9]; rfl) (by decide) ?_
    refine lv_aload_n hx hb dX0_tell_107 rfl (lv_at hl 0 rfl) ?_
    refine va_get (D := D) (ci := 0) (v := .ref hs) (C := RX0) (T := TX0) (N := 9) hx hb hts inX0_tell_X0 hown hK hP 3 rfl rfl 0 (by decide) (hts (.fieldLink RX0 9 "BondDesk$Bond" "schedule" "LBondDesk$Schedule;") (by decide +kernel)) (fun _ h9 => h9) rfl dX0_tell_108 ?_
    refine va_get (D := D) (ci := 2) (v := .ref hd) (C := RX3) (T := TX3) (N := 9) hx hb hts inX0_tell_X3 hown hK hP 2 rfl rfl 6 (by decide) (hts (.fieldLink RX0 66 "BondDesk$Schedule" "dates" "[I") (by decide +kernel)) (fun _ h9 => h9) rfl dX0_tell_111 ?_
    refine va_alen (v := (nI n)) hx hb hK hP 1 0 rfl rfl rfl dX0_tell_114 ?_
    exact W.iret hx hb hr (fun t ht _ => ⟨_, rfl, Option.some.inj hf, ht⟩) (fun q hq => absurd hq List.not_mem_nil) dX0_tell_115
  have hf := ie hf c9
  by_cases c10 : a0 = 8
  · have hf := it hf c10
    refine lv_tableIn (off := 115) (tgt := 116) hx hb dX0_tell_1 (by rw [c10]; decide) (by rw [c10]; decide) (by rw [c10]; rfl) (by decide) ?_
    refine lv_aload_n hx hb dX0_tell_116 rfl (lv_at hl 0 rfl) ?_
    obtain ⟨v11, hv11, hf⟩ := ob hf
    refine cSz (W.runV (As := []) (rest := []) ⟨hx, hb, hml, hown, hts⟩ (m_X0_isGone l D cI cJ cO ah ht hs hd B S T n ds v11 hv11) (cwV 0 hts gX0_tell_X0_isGone rfl rfl rfl (by decide +kernel) ⟨Nat.le_of_ble_eq_true rfl, Nat.le_of_ble_eq_true rfl⟩) ⟨pw_blind, va_recv hK hP (ci := 0) (q0 := 3) rfl rfl, fun U hU hW => ⟨rfl, pw_at hZ va_S.rf hP hK hU hW (Or.inr rfl) [0, 1, 2, 3] rfl⟩⟩ rfl rfl hl.1 rfl (lv_room (Nat.le_of_ble_eq_true rfl)) dX0_tell_117 ⟨Nat.zero_le _, Nat.zero_le _⟩) (fun zv11 => ?_)
    refine lv_if_eq (tgt := 127) hx hb dX0_tell_120 (by decide) (fun c12 => ?_) (fun c12 => ?_)
    · have hf := it hf c12
      refine lv_aload_n hx hb dX0_tell_127 rfl (lv_at hl 0 rfl) ?_
      refine va_get (D := D) (ci := 0) (v := .int (B 3)) (C := RX0) (T := TX0) (N := 9) hx hb hts inX0_tell_X0 hown hK hP 3 rfl rfl 3 (by decide) (hts (.fieldLink RX0 25 "BondDesk$Bond" "next" "I") (by decide +kernel)) (fun _ h9 => h9) rfl dX0_tell_128 ?_
      exact W.iret hx hb hr (fun t ht _ => ⟨_, rfl, Option.some.inj hf, ht⟩) (fun q hq => absurd hq List.not_mem_nil) dX0_tell_131
    · have hf := ie hf c12
      refine lv_iconst (v := (-1)) hx hb dX0_tell_123 (by decide) ?_
      refine lv_goto (tgt := 131) hx hb dX0_tell_124 (by decide) ?_
      exact W.iret hx hb hr (fun t ht _ => ⟨_, rfl, Option.some.inj hf, ht⟩) (fun q hq => absurd hq List.not_mem_nil) dX0_tell_131
  have hf := ie hf c10
  by_cases c13 : a0 = 9
  · have hf := it hf c13
    refine lv_tableIn (off := 131) (tgt := 132) hx hb dX0_tell_1 (by rw [c13]; decide) (by rw [c13]; decide) (by rw [c13]; rfl) (by decide) ?_
    refine lv_aload_n hx hb dX0_tell_132 rfl (lv_at hl 0 rfl) ?_
    refine va_get (D := D) (ci := 0) (v := .int (B 2)) (C := RX0) (T := TX0) (N := 9) hx hb hts inX0_tell_X0 hown hK hP 3 rfl rfl 2 (by decide) (hts (.fieldLink RX0 28 "BondDesk$Bond" "state" "I") (by decide +kernel)) (fun _ h9 => h9) rfl dX0_tell_133 ?_
    exact W.iret hx hb hr (fun t ht _ => ⟨_, rfl, Option.some.inj hf, ht⟩) (fun q hq => absurd hq List.not_mem_nil) dX0_tell_136
  have hf := ie hf c13
  have tc1 : ¬ a0.toInt = 0 := ne_ti c1
  have tc2 : ¬ a0.toInt = 1 := ne_ti c2
  have tc3 : ¬ a0.toInt = 2 := ne_ti c3
  have tc4 : ¬ a0.toInt = 3 := ne_ti c4
  have tc5 : ¬ a0.toInt = 4 := ne_ti c5
  have tc6 : ¬ a0.toInt = 5 := ne_ti c6
  have tc7 : ¬ a0.toInt = 6 := ne_ti c7
  have tc9 : ¬ a0.toInt = 7 := ne_ti c9
  have tc10 : ¬ a0.toInt = 8 := ne_ti c10
  have tc13 : ¬ a0.toInt = 9 := ne_ti c13
  refine lv_tableOut (tgt := 137) hx hb dX0_tell_1 (by omega) (by decide) ?_
  refine lv_aload_n hx hb dX0_tell_137 rfl (lv_at hl 0 rfl) ?_
  refine va_get (D := D) (ci := 0) (v := .int (B 4)) (C := RX0) (T := TX0) (N := 9) hx hb hts inX0_tell_X0 hown hK hP 3 rfl rfl 4 (by decide) (hts (.fieldLink RX0 147 "BondDesk$Bond" "pieces" "I") (by decide +kernel)) (fun _ h9 => h9) rfl dX0_tell_138 ?_
  exact W.iret hx hb hr (fun t ht _ => ⟨_, rfl, Option.some.inj hf, ht⟩) (fun q hq => absurd hq List.not_mem_nil) dX0_tell_141
def f_X0_addTo_L52 (n : Nat) (ds : Nat → Int32) (S : Nat → Int32) (T : Nat → Int64)  : Nat → Int64 → Int32 → Option Int64
  | 0, _, _ => none
  | n14 + 1, x12, x13 => (if (nI n) ≤ x13 then some x12 else gd (¬ (x13 < 0 ∨ n ≤ x13.toNatClampNeg)) (bd ((x12 * 31) + ((ds x13.toNatClampNeg).toInt64) : Int64) fun x17 : Int64 => (f_X3_couponFor S T x13 100000).bind fun v18 : Int64 => bd ((x17 * 31) + v18 : Int64) fun x19 : Int64 => bd (x13 + 1) fun x20 : Int32 => f_X0_addTo_L52 n ds S T n14 x19 x20))
def f_X0_addTo_L6 (S : Nat → Int32) (n : Nat) (B : Nat → Int32) (K3 : Int64 → Option Int64) : Nat → Int64 → Int32 → Option Int64
  | 0, _, _ => none
  | n5 + 1, x1, x2 => (if 10 < x2 then K3 x1 else (f_X0_tell S n B x2).bind fun v7 : Int32 => bd ((x1 * 31) + (v7.toInt64) : Int64) fun x8 : Int64 => bd (x2 + 1) fun x9 : Int32 => f_X0_addTo_L6 S n B K3 n5 x8 x9)
def f_X0_addTo (N : Nat) (S : Nat → Int32) (T : Nat → Int64) (n : Nat) (ds : Nat → Int32) (B : Nat → Int32) (a0 : Int64) (a1 : Int32) : Option Int64 :=
  f_X0_addTo_L6 S n B (fun (x4 : Int64) => (f_X0_accruedOn N S n ds B a1).bind fun v10 : Int64 => bd ((x4 * 31) + v10 : Int64) fun x11 : Int64 => f_X0_addTo_L52 n ds S T N x11 0) N a0 0
theorem inX0_addTo_X0 : ∀ w ∈ wsX00, w ∈ wsX0_addTo := by decide +kernel
theorem inX0_addTo_X3 : ∀ w ∈ wsX30, w ∈ wsX0_addTo := by decide +kernel
set_option maxHeartbeats 4000000 in
set_option maxRecDepth 100000 in
theorem m_X0_addTo (l : Launch) (D : va_G) (cI cJ cO : ClassId) (ah : Nat) (ht hs hd : Nat) (B : Nat → Int32) (S : Nat → Int32) (T : Nat → Int64) (n : Nat) (ds : Nat → Int32) (a0 : Int64) (a1 : Int32) (N : Nat) (r : Int64) (hf : f_X0_addTo N S T n ds B a0 a1 = some r) : Met l yX0_addTo wsX0_addTo ({ frames := 5, cells := 0, slots := 0, locals := 114 }) (va_Pc [.ref ht, .long a0, .int a1] (pw D (ty3 cI cJ cO) (some ah) [eA cI ah, eD cI hd n ds, eS hs hd S T, eB ht hs B])) (QSl r) 0 0 (fun _ => False) := by
  refine Met.ofW (cc := cX0_addTo) (maxL := 7) (ret := (some .long)) (by decide) rfl ?_
  intro p e s m args below meth c s₁ Bd hml hv
  obtain ⟨rfl, hZ, hP, hK⟩ := hv
  have hx := Bd.exec
  have hb := Bd.bytes
  have hr := Bd.returns
  have hts := atoms_spec (ws := wsX0_addTo) Bd.pre
  have hown : s.vm.findClass RX0 = some m.cls := findClass_of_methodNamed Bd.named
  have hlocks := Bd.notSynchronized
  have hl := lv_entry ([.ref ht, .long a0, .int a1]) (n := 7) (Nat.le_of_ble_eq_true rfl)
  rw [lg_entry_eq]
  generalize (lg_sl ([.ref ht, .long a0, .int a1]) ++ List.replicate (7 - (lg_sl ([.ref ht, .long a0, .int a1])).length) Slot.unset).toArray = ls at hl ⊢
  have hl : lv_has ls 7 [(0, .ref ht), (1, .long a0), (3, .int a1)] := hl
  unfold f_X0_addTo at hf
  refine lv_lload_n hx hb dX0_addTo_0 rfl (lv_at hl 1 rfl) ?_
  refine lv_lstore (lv' := [(4, .long a0), (0, .ref ht), (1, .long a0), (3, .int a1)]) hx hb dX0_addTo_1 hl (by decide) rfl (fun ls hl => ?_)
  refine lv_iconst (v := 0) hx hb dX0_addTo_3 (by decide) ?_
  refine lv_istore (lv' := [(6, .int 0), (4, .long a0), (0, .ref ht), (1, .long a0), (3, .int a1)]) hx hb dX0_addTo_4 hl (by decide) rfl (fun ls hl => ?_)
  obtain ⟨K3, hK3, hf⟩ := kx_s (P := fun k => f_X0_addTo_L6 S n B k N a0 0 = some r) hf
  have JK3 : ∀ (x4 : Int64) (ls : Array Slot), lv_has ls 7 [(0, .ref ht), (3, .int a1), (4, .long x4)] → K3 x4 = some r → W p l e (headSpec wsX0_addTo ({ frames := 5, cells := 0, slots := 0, locals := 114 })).room s m ([.ref ht, .long a0, .int a1] : List Value).toArray below meth c s.heap [] 0 0 (MQ below (QSl r) ([.ref ht, .long a0, .int a1] : List Value).toArray s 0 0 (fun _ => False)) (F0 m 35 ls []) := by
    intro x4 ls hl hf
    rw [hK3] at hf
    refine lv_lload hx hb dX0_addTo_35 (lv_at hl 2 rfl) ?_
    refine lv_ldc2 hx hb hown (hts (.constantLong RX0 169 (31)) (by decide +kernel)) dX0_addTo_37 ?_
    refine lv_lmul hx hb dX0_addTo_40 ?_
    refine lv_aload_n hx hb dX0_addTo_41 rfl (lv_at hl 0 rfl) ?_
    refine lv_iload_n hx hb dX0_addTo_42 rfl (lv_at hl 1 rfl) ?_
    obtain ⟨v10, hv10, hf⟩ := ob hf
    refine cSl (W.runV (As := [.int a1]) (rest := [.long (x4 * 31)]) ⟨hx, hb, hml, hown, hts⟩ (m_X0_accruedOn l D cI cJ cO ah ht hs hd B S T n ds a1 N v10 hv10) (cwV 1 hts gX0_addTo_X0_accruedOn rfl rfl rfl (by decide +kernel) ⟨Nat.le_of_ble_eq_true rfl, Nat.le_of_ble_eq_true rfl⟩) ⟨pw_blind, va_recv hK hP (ci := 0) (q0 := 3) rfl rfl, fun U hU hW => ⟨rfl, pw_at hZ va_S.rf hP hK hU hW (Or.inr rfl) [0, 1, 2, 3] rfl⟩⟩ rfl rfl hl.1 rfl (lv_room (Nat.le_of_ble_eq_true rfl)) dX0_addTo_43 ⟨Nat.zero_le _, Nat.zero_le _⟩) ?_
    refine lv_ladd hx hb dX0_addTo_46 ?_
    refine lv_topl (fun x11 ex11 => ?_)
    have hf := bd_s hf ex11
    refine lv_lstore (lv' := [(4, .long x11), (0, .ref ht), (3, .int a1)]) hx hb dX0_addTo_47 hl (by decide) rfl (fun ls hl => ?_)
    refine lv_iconst (v := 0) hx hb dX0_addTo_49 (by decide) ?_
    refine lv_istore (lv' := [(6, .int 0), (4, .long x11), (0, .ref ht), (3, .int a1)]) hx hb dX0_addTo_50 hl (by decide) rfl (fun ls hl => ?_)
    have LP52 : ∀ (n14 : Nat) (x12 : Int64) (x13 : Int32) (ls : Array Slot), lv_has ls 7 [(0, .ref ht), (4, .long x12), (6, .int x13)] → f_X0_addTo_L52 n ds S T n14 x12 x13 = some r → W p l e (headSpec wsX0_addTo ({ frames := 5, cells := 0, slots := 0, locals := 114 })).room s m ([.ref ht, .long a0, .int a1] : List Value).toArray below meth c s.heap [] 0 0 (MQ below (QSl r) ([.ref ht, .long a0, .int a1] : List Value).toArray s 0 0 (fun _ => False)) (F0 m 52 ls []) := by
      intro n14
      induction n14 with
      | zero => intro x12 x13 ls hl hf; exact (no_s hf).elim
      | succ n14 ih14 =>
        intro x12 x13 ls hl hf
        rw [f_X0_addTo_L52] at hf
        refine lv_iload hx hb dX0_addTo_52 (lv_at hl 2 rfl) ?_
        refine lv_aload_n hx hb dX0_addTo_54 rfl (lv_at hl 0 rfl) ?_
        refine va_get (D := D) (ci := 0) (v := .ref hs) (C := RX0) (T := TX0) (N := 9) hx hb hts inX0_addTo_X0 hown hK hP 3 rfl rfl 0 (by decide) (hts (.fieldLink RX0 9 "BondDesk$Bond" "schedule" "LBondDesk$Schedule;") (by decide +kernel)) (fun _ h9 => h9) rfl dX0_addTo_55 ?_
        refine va_get (D := D) (ci := 2) (v := .ref hd) (C := RX3) (T := TX3) (N := 9) hx hb hts inX0_addTo_X3 hown hK hP 2 rfl rfl 6 (by decide) (hts (.fieldLink RX0 66 "BondDesk$Schedule" "dates" "[I") (by decide +kernel)) (fun _ h9 => h9) rfl dX0_addTo_58 ?_
        refine va_alen (v := (nI n)) hx hb hK hP 1 0 rfl rfl rfl dX0_addTo_61 ?_
        refine lv_icmp_ge (tgt := 112) hx hb dX0_addTo_62 (by decide) (fun c15 => ?_) (fun c15 => ?_)
        · have hf := it hf c15
          refine lv_lload hx hb dX0_addTo_112 (lv_at hl 1 rfl) ?_
          exact W.lret hx hb hr (fun t ht _ => ⟨_, rfl, Option.some.inj hf, ht⟩) (fun q hq => absurd hq List.not_mem_nil) dX0_addTo_114
        · have hf := ie hf c15
          refine lv_lload hx hb dX0_addTo_65 (lv_at hl 1 rfl) ?_
          refine lv_ldc2 hx hb hown (hts (.constantLong RX0 169 (31)) (by decide +kernel)) dX0_addTo_67 ?_
          refine lv_lmul hx hb dX0_addTo_70 ?_
          refine lv_aload_n hx hb dX0_addTo_71 rfl (lv_at hl 0 rfl) ?_
          refine va_get (D := D) (ci := 0) (v := .ref hs) (C := RX0) (T := TX0) (N := 9) hx hb hts inX0_addTo_X0 hown hK hP 3 rfl rfl 0 (by decide) (hts (.fieldLink RX0 9 "BondDesk$Bond" "schedule" "LBondDesk$Schedule;") (by decide +kernel)) (fun _ h9 => h9) rfl dX0_addTo_72 ?_
          refine va_get (D := D) (ci := 2) (v := .ref hd) (C := RX3) (T := TX3) (N := 9) hx hb hts inX0_addTo_X3 hown hK hP 2 rfl rfl 6 (by decide) (hts (.fieldLink RX0 66 "BondDesk$Schedule" "dates" "[I") (by decide +kernel)) (fun _ h9 => h9) rfl dX0_addTo_75 ?_
          refine lv_iload hx hb dX0_addTo_78 (lv_at hl 2 rfl) ?_
          obtain ⟨c16, hf⟩ := gd_s hf
          refine va_iald hx hb hK hP 1 0 rfl rfl c16 dX0_addTo_80 ?_
          refine lv_i2l hx hb dX0_addTo_81 rfl ?_
          refine lv_ladd hx hb dX0_addTo_82 ?_
          refine lv_topl (fun x17 ex17 => ?_)
          have hf := bd_s hf ex17
          refine lv_lstore (lv' := [(4, .long x17), (0, .ref ht), (6, .int x13)]) hx hb dX0_addTo_83 hl (by decide) rfl (fun ls hl => ?_)
          refine lv_lload hx hb dX0_addTo_85 (lv_at hl 0 rfl) ?_
          refine lv_ldc2 hx hb hown (hts (.constantLong RX0 169 (31)) (by decide +kernel)) dX0_addTo_87 ?_
          refine lv_lmul hx hb dX0_addTo_90 ?_
          refine lv_aload_n hx hb dX0_addTo_91 rfl (lv_at hl 1 rfl) ?_
          refine va_get (D := D) (ci := 0) (v := .ref hs) (C := RX0) (T := TX0) (N := 9) hx hb hts inX0_addTo_X0 hown hK hP 3 rfl rfl 0 (by decide) (hts (.fieldLink RX0 9 "BondDesk$Bond" "schedule" "LBondDesk$Schedule;") (by decide +kernel)) (fun _ h9 => h9) rfl dX0_addTo_92 ?_
          refine lv_iload hx hb dX0_addTo_95 (lv_at hl 2 rfl) ?_
          refine lv_ldc2 hx hb hown (hts (.constantLong RX0 50 (100000)) (by decide +kernel)) dX0_addTo_97 ?_
          obtain ⟨v18, hv18, hf⟩ := ob hf
          refine cSl (W.runV (As := [.int x13, .long 100000]) (rest := [.long (x17 * 31)]) ⟨hx, hb, hml, hown, hts⟩ (m_X3_couponFor l D cI cJ cO ah hs hd S T n ds x13 100000 v18 hv18) (cwV 2 hts gX0_addTo_X3_couponFor rfl rfl rfl (by decide +kernel) ⟨Nat.le_of_ble_eq_true rfl, Nat.le_of_ble_eq_true rfl⟩) ⟨pw_blind, va_recv hK hP (ci := 2) (q0 := 2) rfl rfl, fun U hU hW => ⟨rfl, pw_at hZ va_S.rf hP hK hU hW (Or.inr rfl) [0, 1, 2] rfl⟩⟩ rfl rfl hl.1 rfl (lv_room (Nat.le_of_ble_eq_true rfl)) dX0_addTo_100 ⟨Nat.zero_le _, Nat.zero_le _⟩) ?_
          refine lv_ladd hx hb dX0_addTo_103 ?_
          refine lv_topl (fun x19 ex19 => ?_)
          have hf := bd_s hf ex19
          refine lv_lstore (lv' := [(4, .long x19), (0, .ref ht), (6, .int x13)]) hx hb dX0_addTo_104 hl (by decide) rfl (fun ls hl => ?_)
          obtain ⟨x20, ex20⟩ : ∃ y : Int32, y = x13 + 1 := ⟨_, rfl⟩
          have hf := bd_s hf ex20
          refine lv_iinc (v := x20) (lv' := [(6, .int x20), (4, .long x19), (0, .ref ht)]) hx hb dX0_addTo_106 hl (k := 2) rfl (by rw [ex20]; rfl) (by decide) rfl (fun ls hl => ?_)
          refine lv_goto (tgt := 52) hx hb dX0_addTo_109 (by decide) ?_
          exact ih14 x19 x20 ls (lv_sub hl [2, 1, 0] rfl) hf
    exact LP52 N x11 0 ls (lv_sub hl [2, 1, 0] rfl) hf
  have LP6 : ∀ (n5 : Nat) (x1 : Int64) (x2 : Int32) (ls : Array Slot), lv_has ls 7 [(0, .ref ht), (3, .int a1), (4, .long x1), (6, .int x2)] → f_X0_addTo_L6 S n B K3 n5 x1 x2 = some r → W p l e (headSpec wsX0_addTo ({ frames := 5, cells := 0, slots := 0, locals := 114 })).room s m ([.ref ht, .long a0, .int a1] : List Value).toArray below meth c s.heap [] 0 0 (MQ below (QSl r) ([.ref ht, .long a0, .int a1] : List Value).toArray s 0 0 (fun _ => False)) (F0 m 6 ls []) := by
    intro n5
    induction n5 with
    | zero => intro x1 x2 ls hl hf; exact (no_s hf).elim
    | succ n5 ih5 =>
      intro x1 x2 ls hl hf
      rw [f_X0_addTo_L6] at hf
      refine lv_iload hx hb dX0_addTo_6 (lv_at hl 3 rfl) ?_
      refine lv_bipush (v := 10) hx hb dX0_addTo_8 (by decide) ?_
      refine lv_icmp_gt (tgt := 35) hx hb dX0_addTo_10 (by decide) (fun c6 => ?_) (fun c6 => ?_)
      · have hf := it hf c6
        exact JK3 x1 ls (lv_sub hl [0, 1, 2] rfl) hf
      · have hf := ie hf c6
        refine lv_lload hx hb dX0_addTo_13 (lv_at hl 2 rfl) ?_
        refine lv_ldc2 hx hb hown (hts (.constantLong RX0 169 (31)) (by decide +kernel)) dX0_addTo_15 ?_
        refine lv_lmul hx hb dX0_addTo_18 ?_
        refine lv_aload_n hx hb dX0_addTo_19 rfl (lv_at hl 0 rfl) ?_
        refine lv_iload hx hb dX0_addTo_20 (lv_at hl 3 rfl) ?_
        obtain ⟨v7, hv7, hf⟩ := ob hf
        refine cSi (W.runV (As := [.int x2]) (rest := [.long (x1 * 31)]) ⟨hx, hb, hml, hown, hts⟩ (m_X0_tell l D cI cJ cO ah ht hs hd B S T n ds x2 v7 hv7) (cwV 1 hts gX0_addTo_X0_tell rfl rfl rfl (by decide +kernel) ⟨Nat.le_of_ble_eq_true rfl, Nat.le_of_ble_eq_true rfl⟩) ⟨pw_blind, va_recv hK hP (ci := 0) (q0 := 3) rfl rfl, fun U hU hW => ⟨rfl, pw_at hZ va_S.rf hP hK hU hW (Or.inr rfl) [0, 1, 2, 3] rfl⟩⟩ rfl rfl hl.1 rfl (lv_room (Nat.le_of_ble_eq_true rfl)) dX0_addTo_22 ⟨Nat.zero_le _, Nat.zero_le _⟩) ?_
        refine lv_i2l hx hb dX0_addTo_25 rfl ?_
        refine lv_ladd hx hb dX0_addTo_26 ?_
        refine lv_topl (fun x8 ex8 => ?_)
        have hf := bd_s hf ex8
        refine lv_lstore (lv' := [(4, .long x8), (0, .ref ht), (3, .int a1), (6, .int x2)]) hx hb dX0_addTo_27 hl (by decide) rfl (fun ls hl => ?_)
        obtain ⟨x9, ex9⟩ : ∃ y : Int32, y = x2 + 1 := ⟨_, rfl⟩
        have hf := bd_s hf ex9
        refine lv_iinc (v := x9) (lv' := [(6, .int x9), (4, .long x8), (0, .ref ht), (3, .int a1)]) hx hb dX0_addTo_29 hl (k := 3) rfl (by rw [ex9]; rfl) (by decide) rfl (fun ls hl => ?_)
        refine lv_goto (tgt := 6) hx hb dX0_addTo_32 (by decide) ?_
        exact ih5 x8 x9 ls (lv_sub hl [2, 3, 1, 0] rfl) hf
  exact LP6 N a0 0 ls (lv_sub hl [2, 4, 1, 0] rfl) hf
def f_X5_isIn (a0 : Int32) (a1 : Int32) (a2 : Int32) : Option Int32 :=
  (if a0 < a1 then some 0 else (if a2 < a0 then some 0 else some 1))
set_option maxHeartbeats 4000000 in
set_option maxRecDepth 100000 in
theorem m_X5_isIn (l : Launch) (D : va_G) (cI cJ cO : ClassId)  (a0 : Int32) (a1 : Int32) (a2 : Int32) (r : Int32) (hf : f_X5_isIn a0 a1 a2 = some r) : Met l yX5_isIn wsX5_isIn ({ frames := 0, cells := 0, slots := 0, locals := 0 }) (va_Pc [.int a0, .int a1, .int a2] (pw D (ty3 cI cJ cO) none [])) (QSz r) 0 0 (fun _ => False) := by
  refine Met.ofW (cc := cX5_isIn) (maxL := 3) (ret := (some .boolean)) (by decide) rfl ?_
  intro p e s m args below meth c s₁ Bd hml hv
  obtain ⟨rfl, hZ, hP, hK⟩ := hv
  have hx := Bd.exec
  have hb := Bd.bytes
  have hr := Bd.returns
  have hts := atoms_spec (ws := wsX5_isIn) Bd.pre
  have hown : s.vm.findClass RX5 = some m.cls := findClass_of_methodNamed Bd.named
  have hlocks := Bd.notSynchronized
  have hl := lv_entry ([.int a0, .int a1, .int a2]) (n := 3) (Nat.le_of_ble_eq_true rfl)
  rw [lg_entry_eq]
  generalize (lg_sl ([.int a0, .int a1, .int a2]) ++ List.replicate (3 - (lg_sl ([.int a0, .int a1, .int a2])).length) Slot.unset).toArray = ls at hl ⊢
  have hl : lv_has ls 3 [(0, .int a0), (1, .int a1), (2, .int a2)] := hl
  unfold f_X5_isIn at hf
  refine lv_iload_n hx hb dX5_isIn_0 rfl (lv_at hl 0 rfl) ?_
  refine lv_iload_n hx hb dX5_isIn_1 rfl (lv_at hl 1 rfl) ?_
  refine lv_icmp_lt (tgt := 14) hx hb dX5_isIn_2 (by decide) (fun c1 => ?_) (fun c1 => ?_)
  · have hf := it hf c1
    refine lv_iconst (v := 0) hx hb dX5_isIn_14 (by decide) ?_
    exact W.zret hx hb hr (zn (Or.inl rfl)) (fun t ht _ => ⟨_, rfl, ⟨Option.some.inj hf, (Or.inl rfl)⟩, ht⟩) (fun q hq => absurd hq List.not_mem_nil) dX5_isIn_15
  · have hf := ie hf c1
    refine lv_iload_n hx hb dX5_isIn_5 rfl (lv_at hl 0 rfl) ?_
    refine lv_iload_n hx hb dX5_isIn_6 rfl (lv_at hl 2 rfl) ?_
    refine lv_icmp_gt (tgt := 14) hx hb dX5_isIn_7 (by decide) (fun c2 => ?_) (fun c2 => ?_)
    · have hf := it hf c2
      refine lv_iconst (v := 0) hx hb dX5_isIn_14 (by decide) ?_
      exact W.zret hx hb hr (zn (Or.inl rfl)) (fun t ht _ => ⟨_, rfl, ⟨Option.some.inj hf, (Or.inl rfl)⟩, ht⟩) (fun q hq => absurd hq List.not_mem_nil) dX5_isIn_15
    · have hf := ie hf c2
      refine lv_iconst (v := 1) hx hb dX5_isIn_10 (by decide) ?_
      refine lv_goto (tgt := 15) hx hb dX5_isIn_11 (by decide) ?_
      exact W.zret hx hb hr (zn (Or.inr rfl)) (fun t ht _ => ⟨_, rfl, ⟨Option.some.inj hf, (Or.inr rfl)⟩, ht⟩) (fun q hq => absurd hq List.not_mem_nil) dX5_isIn_15
def f_X5_length (a0 : Int32) (a1 : Int32) : Option Int32 :=
  (if a1 = 2 then (if (a0 - a0 / 4 * 4) = 0 then some 29 else some 28) else (if a1 = 4 then some 30 else (if a1 = 6 then some 30 else (if a1 = 9 then some 30 else (if a1 = 11 then some 30 else some 31)))))
set_option maxHeartbeats 4000000 in
set_option maxRecDepth 100000 in
theorem m_X5_length (l : Launch) (D : va_G) (cI cJ cO : ClassId)  (a0 : Int32) (a1 : Int32) (r : Int32) (hf : f_X5_length a0 a1 = some r) : Met l yX5_length wsX5_length ({ frames := 0, cells := 0, slots := 0, locals := 0 }) (va_Pc [.int a0, .int a1] (pw D (ty3 cI cJ cO) none [])) (QSi r) 0 0 (fun _ => False) := by
  refine Met.ofW (cc := cX5_length) (maxL := 2) (ret := (some .int)) (by decide) rfl ?_
  intro p e s m args below meth c s₁ Bd hml hv
  obtain ⟨rfl, hZ, hP, hK⟩ := hv
  have hx := Bd.exec
  have hb := Bd.bytes
  have hr := Bd.returns
  have hts := atoms_spec (ws := wsX5_length) Bd.pre
  have hown : s.vm.findClass RX5 = some m.cls := findClass_of_methodNamed Bd.named
  have hlocks := Bd.notSynchronized
  have hl := lv_entry ([.int a0, .int a1]) (n := 2) (Nat.le_of_ble_eq_true rfl)
  rw [lg_entry_eq]
  generalize (lg_sl ([.int a0, .int a1]) ++ List.replicate (2 - (lg_sl ([.int a0, .int a1])).length) Slot.unset).toArray = ls at hl ⊢
  have hl : lv_has ls 2 [(0, .int a0), (1, .int a1)] := hl
  unfold f_X5_length at hf
  refine lv_iload_n hx hb dX5_length_0 rfl (lv_at hl 1 rfl) ?_
  refine lv_iconst (v := 2) hx hb dX5_length_1 (by decide) ?_
  refine lv_icmp_ne (tgt := 19) hx hb dX5_length_2 (by decide) (fun c1 => ?_) (fun c1 => ?_)
  · have hf := ie hf c1
    refine lv_iload_n hx hb dX5_length_19 rfl (lv_at hl 1 rfl) ?_
    refine lv_iconst (v := 4) hx hb dX5_length_20 (by decide) ?_
    refine lv_icmp_eq (tgt := 42) hx hb dX5_length_21 (by decide) (fun c2 => ?_) (fun c2 => ?_)
    · have hf := it hf c2
      refine lv_bipush (v := 30) hx hb dX5_length_42 (by decide) ?_
      refine lv_goto (tgt := 49) hx hb dX5_length_44 (by decide) ?_
      exact W.iret hx hb hr (fun t ht _ => ⟨_, rfl, Option.some.inj hf, ht⟩) (fun q hq => absurd hq List.not_mem_nil) dX5_length_49
    · have hf := ie hf c2
      refine lv_iload_n hx hb dX5_length_24 rfl (lv_at hl 1 rfl) ?_
      refine lv_bipush (v := 6) hx hb dX5_length_25 (by decide) ?_
      refine lv_icmp_eq (tgt := 42) hx hb dX5_length_27 (by decide) (fun c3 => ?_) (fun c3 => ?_)
      · have hf := it hf c3
        refine lv_bipush (v := 30) hx hb dX5_length_42 (by decide) ?_
        refine lv_goto (tgt := 49) hx hb dX5_length_44 (by decide) ?_
        exact W.iret hx hb hr (fun t ht _ => ⟨_, rfl, Option.some.inj hf, ht⟩) (fun q hq => absurd hq List.not_mem_nil) dX5_length_49
      · have hf := ie hf c3
        refine lv_iload_n hx hb dX5_length_30 rfl (lv_at hl 1 rfl) ?_
        refine lv_bipush (v := 9) hx hb dX5_length_31 (by decide) ?_
        refine lv_icmp_eq (tgt := 42) hx hb dX5_length_33 (by decide) (fun c4 => ?_) (fun c4 => ?_)
        · have hf := it hf c4
          refine lv_bipush (v := 30) hx hb dX5_length_42 (by decide) ?_
          refine lv_goto (tgt := 49) hx hb dX5_length_44 (by decide) ?_
          exact W.iret hx hb hr (fun t ht _ => ⟨_, rfl, Option.some.inj hf, ht⟩) (fun q hq => absurd hq List.not_mem_nil) dX5_length_49
        · have hf := ie hf c4
          refine lv_iload_n hx hb dX5_length_36 rfl (lv_at hl 1 rfl) ?_
          refine lv_bipush (v := 11) hx hb dX5_length_37 (by decide) ?_
          refine lv_icmp_ne (tgt := 47) hx hb dX5_length_39 (by decide) (fun c5 => ?_) (fun c5 => ?_)
          · have hf := ie hf c5
            refine lv_bipush (v := 31) hx hb dX5_length_47 (by decide) ?_
            exact W.iret hx hb hr (fun t ht _ => ⟨_, rfl, Option.some.inj hf, ht⟩) (fun q hq => absurd hq List.not_mem_nil) dX5_length_49
          · have hf := it hf c5
            refine lv_bipush (v := 30) hx hb dX5_length_42 (by decide) ?_
            refine lv_goto (tgt := 49) hx hb dX5_length_44 (by decide) ?_
            exact W.iret hx hb hr (fun t ht _ => ⟨_, rfl, Option.some.inj hf, ht⟩) (fun q hq => absurd hq List.not_mem_nil) dX5_length_49
  · have hf := it hf c1
    refine lv_iload_n hx hb dX5_length_5 rfl (lv_at hl 0 rfl) ?_
    refine lv_iconst (v := 4) hx hb dX5_length_6 (by decide) ?_
    refine lv_irem hx hb dX5_length_7 (by decide) ?_
    refine lv_if_ne (tgt := 16) hx hb dX5_length_8 (by decide) (fun c6 => ?_) (fun c6 => ?_)
    · have hf := ie hf c6
      refine lv_bipush (v := 28) hx hb dX5_length_16 (by decide) ?_
      exact W.iret hx hb hr (fun t ht _ => ⟨_, rfl, Option.some.inj hf, ht⟩) (fun q hq => absurd hq List.not_mem_nil) dX5_length_18
    · have hf := it hf c6
      refine lv_bipush (v := 29) hx hb dX5_length_11 (by decide) ?_
      refine lv_goto (tgt := 18) hx hb dX5_length_13 (by decide) ?_
      exact W.iret hx hb hr (fun t ht _ => ⟨_, rfl, Option.some.inj hf, ht⟩) (fun q hq => absurd hq List.not_mem_nil) dX5_length_18
def f_X5_isDate (a0 : Int32) : Option Int32 :=
  bd ((a0 / 100) - (a0 / 100) / 100 * 100 : Int32) fun x1 : Int32 => (f_X5_isIn a0 20160101 20661231).bind fun v2 : Int32 => (if v2 = 0 then some 0 else (f_X5_isIn x1 1 12).bind fun v4 : Int32 => (if v4 = 0 then some 0 else (f_X5_length (a0 / 10000) x1).bind fun v6 : Int32 => (f_X5_isIn (a0 - a0 / 100 * 100) 1 v6).bind fun v7 : Int32 => (if v7 = 0 then some 0 else some 1)))
set_option maxHeartbeats 4000000 in
set_option maxRecDepth 100000 in
theorem m_X5_isDate (l : Launch) (D : va_G) (cI cJ cO : ClassId)  (a0 : Int32) (r : Int32) (hf : f_X5_isDate a0 = some r) : Met l yX5_isDate wsX5_isDate ({ frames := 1, cells := 0, slots := 0, locals := 22 }) (va_Pc [.int a0] (pw D (ty3 cI cJ cO) none [])) (QSz r) 0 0 (fun _ => False) := by
  refine Met.ofW (cc := cX5_isDate) (maxL := 2) (ret := (some .boolean)) (by decide) rfl ?_
  intro p e s m args below meth c s₁ Bd hml hv
  obtain ⟨rfl, hZ, hP, hK⟩ := hv
  have hx := Bd.exec
  have hb := Bd.bytes
  have hr := Bd.returns
  have hts := atoms_spec (ws := wsX5_isDate) Bd.pre
  have hown : s.vm.findClass RX5 = some m.cls := findClass_of_methodNamed Bd.named
  have hlocks := Bd.notSynchronized
  have hl := lv_entry ([.int a0]) (n := 2) (Nat.le_of_ble_eq_true rfl)
  rw [lg_entry_eq]
  generalize (lg_sl ([.int a0]) ++ List.replicate (2 - (lg_sl ([.int a0])).length) Slot.unset).toArray = ls at hl ⊢
  have hl : lv_has ls 2 [(0, .int a0)] := hl
  unfold f_X5_isDate at hf
  refine lv_iload_n hx hb dX5_isDate_0 rfl (lv_at hl 0 rfl) ?_
  refine lv_bipush (v := 100) hx hb dX5_isDate_1 (by decide) ?_
  refine lv_idiv hx hb dX5_isDate_3 (by decide) ?_
  refine lv_bipush (v := 100) hx hb dX5_isDate_4 (by decide) ?_
  refine lv_irem hx hb dX5_isDate_6 (by decide) ?_
  refine lv_topi (fun x1 ex1 => ?_)
  have hf := bd_s hf ex1
  refine lv_istore_n (lv' := [(1, .int x1), (0, .int a0)]) hx hb dX5_isDate_7 rfl hl (by decide) rfl (fun ls hl => ?_)
  refine lv_iload_n hx hb dX5_isDate_8 rfl (lv_at hl 1 rfl) ?_
  refine lv_ldc hx hb hown (hts (.constant RX5 44 (20160101)) (by decide +kernel)) dX5_isDate_9 ?_
  refine lv_ldc hx hb hown (hts (.constant RX5 45 (20661231)) (by decide +kernel)) dX5_isDate_11 ?_
  obtain ⟨v2, hv2, hf⟩ := ob hf
  refine cSz (W.runS (As := [.int a0, .int 20160101, .int 20661231]) (rest := []) ⟨hx, hb, hml, hown, hts⟩ (m_X5_isIn l D cI cJ cO a0 20160101 20661231 v2 hv2) (va_cwS 3 hts gX5_isDate_X5_isIn rfl rfl rfl (by decide +kernel) ⟨Nat.le_of_ble_eq_true rfl, Nat.le_of_ble_eq_true rfl⟩) ⟨pw_blind, fun U hU hW => ⟨rfl, pw_at hZ va_S.rf hP hK hU hW (Or.inr rfl) [] rfl⟩⟩ rfl rfl hl.1 rfl (lv_room (Nat.le_of_ble_eq_true rfl)) dX5_isDate_13 ⟨Nat.zero_le _, Nat.zero_le _⟩) (fun zv2 => ?_)
  refine lv_if_eq (tgt := 53) hx hb dX5_isDate_16 (by decide) (fun c3 => ?_) (fun c3 => ?_)
  · have hf := it hf c3
    refine lv_iconst (v := 0) hx hb dX5_isDate_53 (by decide) ?_
    exact W.zret hx hb hr (zn (Or.inl rfl)) (fun t ht _ => ⟨_, rfl, ⟨Option.some.inj hf, (Or.inl rfl)⟩, ht⟩) (fun q hq => absurd hq List.not_mem_nil) dX5_isDate_54
  · have hf := ie hf c3
    refine lv_iload_n hx hb dX5_isDate_19 rfl (lv_at hl 0 rfl) ?_
    refine lv_iconst (v := 1) hx hb dX5_isDate_20 (by decide) ?_
    refine lv_bipush (v := 12) hx hb dX5_isDate_21 (by decide) ?_
    obtain ⟨v4, hv4, hf⟩ := ob hf
    refine cSz (W.runS (As := [.int x1, .int 1, .int 12]) (rest := []) ⟨hx, hb, hml, hown, hts⟩ (m_X5_isIn l D cI cJ cO x1 1 12 v4 hv4) (va_cwS 3 hts gX5_isDate_X5_isIn rfl rfl rfl (by decide +kernel) ⟨Nat.le_of_ble_eq_true rfl, Nat.le_of_ble_eq_true rfl⟩) ⟨pw_blind, fun U hU hW => ⟨rfl, pw_at hZ va_S.rf hP hK hU hW (Or.inr rfl) [] rfl⟩⟩ rfl rfl hl.1 rfl (lv_room (Nat.le_of_ble_eq_true rfl)) dX5_isDate_23 ⟨Nat.zero_le _, Nat.zero_le _⟩) (fun zv4 => ?_)
    refine lv_if_eq (tgt := 53) hx hb dX5_isDate_26 (by decide) (fun c5 => ?_) (fun c5 => ?_)
    · have hf := it hf c5
      refine lv_iconst (v := 0) hx hb dX5_isDate_53 (by decide) ?_
      exact W.zret hx hb hr (zn (Or.inl rfl)) (fun t ht _ => ⟨_, rfl, ⟨Option.some.inj hf, (Or.inl rfl)⟩, ht⟩) (fun q hq => absurd hq List.not_mem_nil) dX5_isDate_54
    · have hf := ie hf c5
      refine lv_iload_n hx hb dX5_isDate_29 rfl (lv_at hl 1 rfl) ?_
      refine lv_bipush (v := 100) hx hb dX5_isDate_30 (by decide) ?_
      refine lv_irem hx hb dX5_isDate_32 (by decide) ?_
      refine lv_iconst (v := 1) hx hb dX5_isDate_33 (by decide) ?_
      refine lv_iload_n hx hb dX5_isDate_34 rfl (lv_at hl 1 rfl) ?_
      refine lv_sipush (v := 10000) hx hb dX5_isDate_35 (by decide) ?_
      refine lv_idiv hx hb dX5_isDate_38 (by decide) ?_
      refine lv_iload_n hx hb dX5_isDate_39 rfl (lv_at hl 0 rfl) ?_
      obtain ⟨v6, hv6, hf⟩ := ob hf
      refine cSi (W.runS (As := [.int (a0 / 10000), .int x1]) (rest := [.int 1, .int (a0 - a0 / 100 * 100)]) ⟨hx, hb, hml, hown, hts⟩ (m_X5_length l D cI cJ cO (a0 / 10000) x1 v6 hv6) (va_cwS 2 hts gX5_isDate_X5_length rfl rfl rfl (by decide +kernel) ⟨Nat.le_of_ble_eq_true rfl, Nat.le_of_ble_eq_true rfl⟩) ⟨pw_blind, fun U hU hW => ⟨rfl, pw_at hZ va_S.rf hP hK hU hW (Or.inr rfl) [] rfl⟩⟩ rfl rfl hl.1 rfl (lv_room (Nat.le_of_ble_eq_true rfl)) dX5_isDate_40 ⟨Nat.zero_le _, Nat.zero_le _⟩) ?_
      obtain ⟨v7, hv7, hf⟩ := ob hf
      refine cSz (W.runS (As := [.int (a0 - a0 / 100 * 100), .int 1, .int v6]) (rest := []) ⟨hx, hb, hml, hown, hts⟩ (m_X5_isIn l D cI cJ cO (a0 - a0 / 100 * 100) 1 v6 v7 hv7) (va_cwS 3 hts gX5_isDate_X5_isIn rfl rfl rfl (by decide +kernel) ⟨Nat.le_of_ble_eq_true rfl, Nat.le_of_ble_eq_true rfl⟩) ⟨pw_blind, fun U hU hW => ⟨rfl, pw_at hZ va_S.rf hP hK hU hW (Or.inr rfl) [] rfl⟩⟩ rfl rfl hl.1 rfl (lv_room (Nat.le_of_ble_eq_true rfl)) dX5_isDate_43 ⟨Nat.zero_le _, Nat.zero_le _⟩) (fun zv7 => ?_)
      refine lv_if_eq (tgt := 53) hx hb dX5_isDate_46 (by decide) (fun c8 => ?_) (fun c8 => ?_)
      · have hf := it hf c8
        refine lv_iconst (v := 0) hx hb dX5_isDate_53 (by decide) ?_
        exact W.zret hx hb hr (zn (Or.inl rfl)) (fun t ht _ => ⟨_, rfl, ⟨Option.some.inj hf, (Or.inl rfl)⟩, ht⟩) (fun q hq => absurd hq List.not_mem_nil) dX5_isDate_54
      · have hf := ie hf c8
        refine lv_iconst (v := 1) hx hb dX5_isDate_49 (by decide) ?_
        refine lv_goto (tgt := 54) hx hb dX5_isDate_50 (by decide) ?_
        exact W.zret hx hb hr (zn (Or.inr rfl)) (fun t ht _ => ⟨_, rfl, ⟨Option.some.inj hf, (Or.inr rfl)⟩, ht⟩) (fun q hq => absurd hq List.not_mem_nil) dX5_isDate_54
def f_X5_number_L31 (a0 : Int32) (x1 : Int32)  : Nat → Int32 → Int32 → Option Int32
  | 0, _, _ => none
  | n5 + 1, x3, x4 => (if ((a0 / 100) - (a0 / 100) / 100 * 100) ≤ x4 then some x3 else (f_X5_length (x1 + 2016) x4).bind fun v7 : Int32 => bd (x3 + v7 : Int32) fun x8 : Int32 => bd (x4 + 1) fun x9 : Int32 => f_X5_number_L31 a0 x1 n5 x8 x9)
def f_X5_number (N : Nat) (a0 : Int32) : Option Int32 :=
  bd ((a0 / 10000) - 2016 : Int32) fun x1 : Int32 => bd ((((365 * x1) + ((x1 + 3) / 4)) + (a0 - a0 / 100 * 100)) - 1 : Int32) fun x2 : Int32 => f_X5_number_L31 a0 x1 N x2 1
set_option maxHeartbeats 4000000 in
set_option maxRecDepth 100000 in
theorem m_X5_number (l : Launch) (D : va_G) (cI cJ cO : ClassId)  (a0 : Int32) (N : Nat) (r : Int32) (hf : f_X5_number N a0 = some r) : Met l yX5_number wsX5_number ({ frames := 1, cells := 0, slots := 0, locals := 21 }) (va_Pc [.int a0] (pw D (ty3 cI cJ cO) none [])) (QSi r) 0 0 (fun _ => False) := by
  refine Met.ofW (cc := cX5_number) (maxL := 4) (ret := (some .int)) (by decide) rfl ?_
  intro p e s m args below meth c s₁ Bd hml hv
  obtain ⟨rfl, hZ, hP, hK⟩ := hv
  have hx := Bd.exec
  have hb := Bd.bytes
  have hr := Bd.returns
  have hts := atoms_spec (ws := wsX5_number) Bd.pre
  have hown : s.vm.findClass RX5 = some m.cls := findClass_of_methodNamed Bd.named
  have hlocks := Bd.notSynchronized
  have hl := lv_entry ([.int a0]) (n := 4) (Nat.le_of_ble_eq_true rfl)
  rw [lg_entry_eq]
  generalize (lg_sl ([.int a0]) ++ List.replicate (4 - (lg_sl ([.int a0])).length) Slot.unset).toArray = ls at hl ⊢
  have hl : lv_has ls 4 [(0, .int a0)] := hl
  unfold f_X5_number at hf
  refine lv_iload_n hx hb dX5_number_0 rfl (lv_at hl 0 rfl) ?_
  refine lv_sipush (v := 10000) hx hb dX5_number_1 (by decide) ?_
  refine lv_idiv hx hb dX5_number_4 (by decide) ?_
  refine lv_sipush (v := 2016) hx hb dX5_number_5 (by decide) ?_
  refine lv_isub hx hb dX5_number_8 ?_
  refine lv_topi (fun x1 ex1 => ?_)
  have hf := bd_s hf ex1
  refine lv_istore_n (lv' := [(1, .int x1), (0, .int a0)]) hx hb dX5_number_9 rfl hl (by decide) rfl (fun ls hl => ?_)
  refine lv_sipush (v := 365) hx hb dX5_number_10 (by decide) ?_
  refine lv_iload_n hx hb dX5_number_13 rfl (lv_at hl 0 rfl) ?_
  refine lv_imul hx hb dX5_number_14 ?_
  refine lv_iload_n hx hb dX5_number_15 rfl (lv_at hl 0 rfl) ?_
  refine lv_iconst (v := 3) hx hb dX5_number_16 (by decide) ?_
  refine lv_iadd hx hb dX5_number_17 ?_
  refine lv_iconst (v := 4) hx hb dX5_number_18 (by decide) ?_
  refine lv_idiv hx hb dX5_number_19 (by decide) ?_
  refine lv_iadd hx hb dX5_number_20 ?_
  refine lv_iload_n hx hb dX5_number_21 rfl (lv_at hl 1 rfl) ?_
  refine lv_bipush (v := 100) hx hb dX5_number_22 (by decide) ?_
  refine lv_irem hx hb dX5_number_24 (by decide) ?_
  refine lv_iadd hx hb dX5_number_25 ?_
  refine lv_iconst (v := 1) hx hb dX5_number_26 (by decide) ?_
  refine lv_isub hx hb dX5_number_27 ?_
  refine lv_topi (fun x2 ex2 => ?_)
  have hf := bd_s hf ex2
  refine lv_istore_n (lv' := [(2, .int x2), (1, .int x1), (0, .int a0)]) hx hb dX5_number_28 rfl hl (by decide) rfl (fun ls hl => ?_)
  refine lv_iconst (v := 1) hx hb dX5_number_29 (by decide) ?_
  refine lv_istore_n (lv' := [(3, .int 1), (2, .int x2), (1, .int x1), (0, .int a0)]) hx hb dX5_number_30 rfl hl (by decide) rfl (fun ls hl => ?_)
  have LP31 : ∀ (n5 : Nat) (x3 : Int32) (x4 : Int32) (ls : Array Slot), lv_has ls 4 [(0, .int a0), (1, .int x1), (2, .int x3), (3, .int x4)] → f_X5_number_L31 a0 x1 n5 x3 x4 = some r → W p l e (headSpec wsX5_number ({ frames := 1, cells := 0, slots := 0, locals := 21 })).room s m ([.int a0] : List Value).toArray below meth c s.heap [] 0 0 (MQ below (QSi r) ([.int a0] : List Value).toArray s 0 0 (fun _ => False)) (F0 m 31 ls []) := by
    intro n5
    induction n5 with
    | zero => intro x3 x4 ls hl hf; exact (no_s hf).elim
    | succ n5 ih5 =>
      intro x3 x4 ls hl hf
      rw [f_X5_number_L31] at hf
      refine lv_iload_n hx hb dX5_number_31 rfl (lv_at hl 3 rfl) ?_
      refine lv_iload_n hx hb dX5_number_32 rfl (lv_at hl 0 rfl) ?_
      refine lv_bipush (v := 100) hx hb dX5_number_33 (by decide) ?_
      refine lv_idiv hx hb dX5_number_35 (by decide) ?_
      refine lv_bipush (v := 100) hx hb dX5_number_36 (by decide) ?_
      refine lv_irem hx hb dX5_number_38 (by decide) ?_
      refine lv_icmp_ge (tgt := 60) hx hb dX5_number_39 (by decide) (fun c6 => ?_) (fun c6 => ?_)
      · have hf := it hf c6
        refine lv_iload_n hx hb dX5_number_60 rfl (lv_at hl 2 rfl) ?_
        exact W.iret hx hb hr (fun t ht _ => ⟨_, rfl, Option.some.inj hf, ht⟩) (fun q hq => absurd hq List.not_mem_nil) dX5_number_61
      · have hf := ie hf c6
        refine lv_iload_n hx hb dX5_number_42 rfl (lv_at hl 2 rfl) ?_
        refine lv_iload_n hx hb dX5_number_43 rfl (lv_at hl 1 rfl) ?_
        refine lv_sipush (v := 2016) hx hb dX5_number_44 (by decide) ?_
        refine lv_iadd hx hb dX5_number_47 ?_
        refine lv_iload_n hx hb dX5_number_48 rfl (lv_at hl 3 rfl) ?_
        obtain ⟨v7, hv7, hf⟩ := ob hf
        refine cSi (W.runS (As := [.int (x1 + 2016), .int x4]) (rest := [.int x3]) ⟨hx, hb, hml, hown, hts⟩ (m_X5_length l D cI cJ cO (x1 + 2016) x4 v7 hv7) (va_cwS 2 hts gX5_number_X5_length rfl rfl rfl (by decide +kernel) ⟨Nat.le_of_ble_eq_true rfl, Nat.le_of_ble_eq_true rfl⟩) ⟨pw_blind, fun U hU hW => ⟨rfl, pw_at hZ va_S.rf hP hK hU hW (Or.inr rfl) [] rfl⟩⟩ rfl rfl hl.1 rfl (lv_room (Nat.le_of_ble_eq_true rfl)) dX5_number_49 ⟨Nat.zero_le _, Nat.zero_le _⟩) ?_
        refine lv_iadd hx hb dX5_number_52 ?_
        refine lv_topi (fun x8 ex8 => ?_)
        have hf := bd_s hf ex8
        refine lv_istore_n (lv' := [(2, .int x8), (0, .int a0), (1, .int x1), (3, .int x4)]) hx hb dX5_number_53 rfl hl (by decide) rfl (fun ls hl => ?_)
        obtain ⟨x9, ex9⟩ : ∃ y : Int32, y = x4 + 1 := ⟨_, rfl⟩
        have hf := bd_s hf ex9
        refine lv_iinc (v := x9) (lv' := [(3, .int x9), (2, .int x8), (0, .int a0), (1, .int x1)]) hx hb dX5_number_54 hl (k := 3) rfl (by rw [ex9]; rfl) (by decide) rfl (fun ls hl => ?_)
        refine lv_goto (tgt := 31) hx hb dX5_number_57 (by decide) ?_
        exact ih5 x8 x9 ls (lv_sub hl [2, 3, 1, 0] rfl) hf
  exact LP31 N x2 1 ls (lv_sub hl [3, 2, 1, 0] rfl) hf
def f_X5_date_L45 (x4 : Int32) (K11 : Int32 → Int32 → Option Int32) : Nat → Int32 → Int32 → Option Int32
  | 0, _, _ => none
  | n14 + 1, x9, x10 => (f_X5_length (x4 + 2016) x10).bind fun v15 : Int32 => (if x9 < v15 then K11 x9 x10 else (f_X5_length (x4 + 2016) x10).bind fun v17 : Int32 => bd (x9 - v17 : Int32) fun x18 : Int32 => bd (x10 + 1) fun x19 : Int32 => f_X5_date_L45 x4 K11 n14 x18 x19)
def f_X5_date_L6 (a0 : Int32) (K3 : Int32 → Option Int32) : Nat → Int32 → Option Int32
  | 0, _ => none
  | n5 + 1, x2 => (if a0 < ((365 * (x2 + 1)) + ((x2 + 4) / 4)) then K3 x2 else bd (x2 + 1) fun x7 : Int32 => f_X5_date_L6 a0 K3 n5 x7)
def f_X5_date (N : Nat) (a0 : Int32) : Option Int32 :=
  bd (a0 / 366 : Int32) fun x1 : Int32 => f_X5_date_L6 a0 (fun (x4 : Int32) => bd ((a0 - (365 * x4)) - ((x4 + 3) / 4) : Int32) fun x8 : Int32 => f_X5_date_L45 x4 (fun (x12 : Int32) (x13 : Int32) => some ((((10000 * (x4 + 2016)) + (100 * x13)) + x12) + 1)) N x8 1) N x1
set_option maxHeartbeats 4000000 in
set_option maxRecDepth 100000 in
theorem m_X5_date (l : Launch) (D : va_G) (cI cJ cO : ClassId)  (a0 : Int32) (N : Nat) (r : Int32) (hf : f_X5_date N a0 = some r) : Met l yX5_date wsX5_date ({ frames := 1, cells := 0, slots := 0, locals := 21 }) (va_Pc [.int a0] (pw D (ty3 cI cJ cO) none [])) (QSi r) 0 0 (fun _ => False) := by
  refine Met.ofW (cc := cX5_date) (maxL := 4) (ret := (some .int)) (by decide) rfl ?_
  intro p e s m args below meth c s₁ Bd hml hv
  obtain ⟨rfl, hZ, hP, hK⟩ := hv
  have hx := Bd.exec
  have hb := Bd.bytes
  have hr := Bd.returns
  have hts := atoms_spec (ws := wsX5_date) Bd.pre
  have hown : s.vm.findClass RX5 = some m.cls := findClass_of_methodNamed Bd.named
  have hlocks := Bd.notSynchronized
  have hl := lv_entry ([.int a0]) (n := 4) (Nat.le_of_ble_eq_true rfl)
  rw [lg_entry_eq]
  generalize (lg_sl ([.int a0]) ++ List.replicate (4 - (lg_sl ([.int a0])).length) Slot.unset).toArray = ls at hl ⊢
  have hl : lv_has ls 4 [(0, .int a0)] := hl
  unfold f_X5_date at hf
  refine lv_iload_n hx hb dX5_date_0 rfl (lv_at hl 0 rfl) ?_
  refine lv_sipush (v := 366) hx hb dX5_date_1 (by decide) ?_
  refine lv_idiv hx hb dX5_date_4 (by decide) ?_
  refine lv_topi (fun x1 ex1 => ?_)
  have hf := bd_s hf ex1
  refine lv_istore_n (lv' := [(1, .int x1), (0, .int a0)]) hx hb dX5_date_5 rfl hl (by decide) rfl (fun ls hl => ?_)
  obtain ⟨K3, hK3, hf⟩ := kx_s (P := fun k => f_X5_date_L6 a0 k N x1 = some r) hf
  have JK3 : ∀ (x4 : Int32) (ls : Array Slot), lv_has ls 4 [(0, .int a0), (1, .int x4)] → K3 x4 = some r → W p l e (headSpec wsX5_date ({ frames := 1, cells := 0, slots := 0, locals := 21 })).room s m ([.int a0] : List Value).toArray below meth c s.heap [] 0 0 (MQ below (QSi r) ([.int a0] : List Value).toArray s 0 0 (fun _ => False)) (F0 m 29 ls []) := by
    intro x4 ls hl hf
    rw [hK3] at hf
    refine lv_iload_n hx hb dX5_date_29 rfl (lv_at hl 0 rfl) ?_
    refine lv_sipush (v := 365) hx hb dX5_date_30 (by decide) ?_
    refine lv_iload_n hx hb dX5_date_33 rfl (lv_at hl 1 rfl) ?_
    refine lv_imul hx hb dX5_date_34 ?_
    refine lv_isub hx hb dX5_date_35 ?_
    refine lv_iload_n hx hb dX5_date_36 rfl (lv_at hl 1 rfl) ?_
    refine lv_iconst (v := 3) hx hb dX5_date_37 (by decide) ?_
    refine lv_iadd hx hb dX5_date_38 ?_
    refine lv_iconst (v := 4) hx hb dX5_date_39 (by decide) ?_
    refine lv_idiv hx hb dX5_date_40 (by decide) ?_
    refine lv_isub hx hb dX5_date_41 ?_
    refine lv_topi (fun x8 ex8 => ?_)
    have hf := bd_s hf ex8
    refine lv_istore_n (lv' := [(2, .int x8), (0, .int a0), (1, .int x4)]) hx hb dX5_date_42 rfl hl (by decide) rfl (fun ls hl => ?_)
    refine lv_iconst (v := 1) hx hb dX5_date_43 (by decide) ?_
    refine lv_istore_n (lv' := [(3, .int 1), (2, .int x8), (0, .int a0), (1, .int x4)]) hx hb dX5_date_44 rfl hl (by decide) rfl (fun ls hl => ?_)
    obtain ⟨K11, hK11, hf⟩ := kx_s (P := fun k => f_X5_date_L45 x4 k N x8 1 = some r) hf
    have JK11 : ∀ (x12 : Int32) (x13 : Int32) (ls : Array Slot), lv_has ls 4 [(1, .int x4), (2, .int x12), (3, .int x13)] → K11 x12 x13 = some r → W p l e (headSpec wsX5_date ({ frames := 1, cells := 0, slots := 0, locals := 21 })).room s m ([.int a0] : List Value).toArray below meth c s.heap [] 0 0 (MQ below (QSi r) ([.int a0] : List Value).toArray s 0 0 (fun _ => False)) (F0 m 76 ls []) := by
      intro x12 x13 ls hl hf
      rw [hK11] at hf
      refine lv_sipush (v := 10000) hx hb dX5_date_76 (by decide) ?_
      refine lv_iload_n hx hb dX5_date_79 rfl (lv_at hl 0 rfl) ?_
      refine lv_sipush (v := 2016) hx hb dX5_date_80 (by decide) ?_
      refine lv_iadd hx hb dX5_date_83 ?_
      refine lv_imul hx hb dX5_date_84 ?_
      refine lv_bipush (v := 100) hx hb dX5_date_85 (by decide) ?_
      refine lv_iload_n hx hb dX5_date_87 rfl (lv_at hl 2 rfl) ?_
      refine lv_imul hx hb dX5_date_88 ?_
      refine lv_iadd hx hb dX5_date_89 ?_
      refine lv_iload_n hx hb dX5_date_90 rfl (lv_at hl 1 rfl) ?_
      refine lv_iadd hx hb dX5_date_91 ?_
      refine lv_iconst (v := 1) hx hb dX5_date_92 (by decide) ?_
      refine lv_iadd hx hb dX5_date_93 ?_
      exact W.iret hx hb hr (fun t ht _ => ⟨_, rfl, Option.some.inj hf, ht⟩) (fun q hq => absurd hq List.not_mem_nil) dX5_date_94
    have LP45 : ∀ (n14 : Nat) (x9 : Int32) (x10 : Int32) (ls : Array Slot), lv_has ls 4 [(1, .int x4), (2, .int x9), (3, .int x10)] → f_X5_date_L45 x4 K11 n14 x9 x10 = some r → W p l e (headSpec wsX5_date ({ frames := 1, cells := 0, slots := 0, locals := 21 })).room s m ([.int a0] : List Value).toArray below meth c s.heap [] 0 0 (MQ below (QSi r) ([.int a0] : List Value).toArray s 0 0 (fun _ => False)) (F0 m 45 ls []) := by
      intro n14
      induction n14 with
      | zero => intro x9 x10 ls hl hf; exact (no_s hf).elim
      | succ n14 ih14 =>
        intro x9 x10 ls hl hf
        rw [f_X5_date_L45] at hf
        refine lv_iload_n hx hb dX5_date_45 rfl (lv_at hl 1 rfl) ?_
        refine lv_iload_n hx hb dX5_date_46 rfl (lv_at hl 0 rfl) ?_
        refine lv_sipush (v := 2016) hx hb dX5_date_47 (by decide) ?_
        refine lv_iadd hx hb dX5_date_50 ?_
        refine lv_iload_n hx hb dX5_date_51 rfl (lv_at hl 2 rfl) ?_
        obtain ⟨v15, hv15, hf⟩ := ob hf
        refine cSi (W.runS (As := [.int (x4 + 2016), .int x10]) (rest := [.int x9]) ⟨hx, hb, hml, hown, hts⟩ (m_X5_length l D cI cJ cO (x4 + 2016) x10 v15 hv15) (va_cwS 2 hts gX5_date_X5_length rfl rfl rfl (by decide +kernel) ⟨Nat.le_of_ble_eq_true rfl, Nat.le_of_ble_eq_true rfl⟩) ⟨pw_blind, fun U hU hW => ⟨rfl, pw_at hZ va_S.rf hP hK hU hW (Or.inr rfl) [] rfl⟩⟩ rfl rfl hl.1 rfl (lv_room (Nat.le_of_ble_eq_true rfl)) dX5_date_52 ⟨Nat.zero_le _, Nat.zero_le _⟩) ?_
        refine lv_icmp_lt (tgt := 76) hx hb dX5_date_55 (by decide) (fun c16 => ?_) (fun c16 => ?_)
        · have hf := it hf c16
          exact JK11 x9 x10 ls (lv_sub hl [0, 1, 2] rfl) hf
        · have hf := ie hf c16
          refine lv_iload_n hx hb dX5_date_58 rfl (lv_at hl 1 rfl) ?_
          refine lv_iload_n hx hb dX5_date_59 rfl (lv_at hl 0 rfl) ?_
          refine lv_sipush (v := 2016) hx hb dX5_date_60 (by decide) ?_
          refine lv_iadd hx hb dX5_date_63 ?_
          refine lv_iload_n hx hb dX5_date_64 rfl (lv_at hl 2 rfl) ?_
          obtain ⟨v17, hv17, hf⟩ := ob hf
          refine cSi (W.runS (As := [.int (x4 + 2016), .int x10]) (rest := [.int x9]) ⟨hx, hb, hml, hown, hts⟩ (m_X5_length l D cI cJ cO (x4 + 2016) x10 v17 hv17) (va_cwS 2 hts gX5_date_X5_length rfl rfl rfl (by decide +kernel) ⟨Nat.le_of_ble_eq_true rfl, Nat.le_of_ble_eq_true rfl⟩) ⟨pw_blind, fun U hU hW => ⟨rfl, pw_at hZ va_S.rf hP hK hU hW (Or.inr rfl) [] rfl⟩⟩ rfl rfl hl.1 rfl (lv_room (Nat.le_of_ble_eq_true rfl)) dX5_date_65 ⟨Nat.zero_le _, Nat.zero_le _⟩) ?_
          refine lv_isub hx hb dX5_date_68 ?_
          refine lv_topi (fun x18 ex18 => ?_)
          have hf := bd_s hf ex18
          refine lv_istore_n (lv' := [(2, .int x18), (1, .int x4), (3, .int x10)]) hx hb dX5_date_69 rfl hl (by decide) rfl (fun ls hl => ?_)
          obtain ⟨x19, ex19⟩ : ∃ y : Int32, y = x10 + 1 := ⟨_, rfl⟩
          have hf := bd_s hf ex19
          refine lv_iinc (v := x19) (lv' := [(3, .int x19), (2, .int x18), (1, .int x4)]) hx hb dX5_date_70 hl (k := 2) rfl (by rw [ex19]; rfl) (by decide) rfl (fun ls hl => ?_)
          refine lv_goto (tgt := 45) hx hb dX5_date_73 (by decide) ?_
          exact ih14 x18 x19 ls (lv_sub hl [2, 1, 0] rfl) hf
    exact LP45 N x8 1 ls (lv_sub hl [3, 1, 0] rfl) hf
  have LP6 : ∀ (n5 : Nat) (x2 : Int32) (ls : Array Slot), lv_has ls 4 [(0, .int a0), (1, .int x2)] → f_X5_date_L6 a0 K3 n5 x2 = some r → W p l e (headSpec wsX5_date ({ frames := 1, cells := 0, slots := 0, locals := 21 })).room s m ([.int a0] : List Value).toArray below meth c s.heap [] 0 0 (MQ below (QSi r) ([.int a0] : List Value).toArray s 0 0 (fun _ => False)) (F0 m 6 ls []) := by
    intro n5
    induction n5 with
    | zero => intro x2 ls hl hf; exact (no_s hf).elim
    | succ n5 ih5 =>
      intro x2 ls hl hf
      rw [f_X5_date_L6] at hf
      refine lv_sipush (v := 365) hx hb dX5_date_6 (by decide) ?_
      refine lv_iload_n hx hb dX5_date_9 rfl (lv_at hl 1 rfl) ?_
      refine lv_iconst (v := 1) hx hb dX5_date_10 (by decide) ?_
      refine lv_iadd hx hb dX5_date_11 ?_
      refine lv_imul hx hb dX5_date_12 ?_
      refine lv_iload_n hx hb dX5_date_13 rfl (lv_at hl 1 rfl) ?_
      refine lv_iconst (v := 4) hx hb dX5_date_14 (by decide) ?_
      refine lv_iadd hx hb dX5_date_15 ?_
      refine lv_iconst (v := 4) hx hb dX5_date_16 (by decide) ?_
      refine lv_idiv hx hb dX5_date_17 (by decide) ?_
      refine lv_iadd hx hb dX5_date_18 ?_
      refine lv_iload_n hx hb dX5_date_19 rfl (lv_at hl 0 rfl) ?_
      refine lv_icmp_gt (tgt := 29) hx hb dX5_date_20 (by decide) (fun c6 => ?_) (fun c6 => ?_)
      · have hf := it hf c6
        exact JK3 x2 ls (lv_sub hl [0, 1] rfl) hf
      · have hf := ie hf c6
        obtain ⟨x7, ex7⟩ : ∃ y : Int32, y = x2 + 1 := ⟨_, rfl⟩
        have hf := bd_s hf ex7
        refine lv_iinc (v := x7) (lv' := [(1, .int x7), (0, .int a0)]) hx hb dX5_date_23 hl (k := 1) rfl (by rw [ex7]; rfl) (by decide) rfl (fun ls hl => ?_)
        refine lv_goto (tgt := 6) hx hb dX5_date_26 (by decide) ?_
        exact ih5 x7 ls (lv_sub hl [1, 0] rfl) hf
  exact LP6 N x1 ls (lv_sub hl [1, 0] rfl) hf
def f_X5_weekday (a0 : Int32) (a1 : Int32) : Option Int32 :=
  some ((a0 + a1) - (a0 + a1) / 7 * 7)
set_option maxHeartbeats 4000000 in
set_option maxRecDepth 100000 in
theorem m_X5_weekday (l : Launch) (D : va_G) (cI cJ cO : ClassId)  (a0 : Int32) (a1 : Int32) (r : Int32) (hf : f_X5_weekday a0 a1 = some r) : Met l yX5_weekday wsX5_weekday ({ frames := 0, cells := 0, slots := 0, locals := 0 }) (va_Pc [.int a0, .int a1] (pw D (ty3 cI cJ cO) none [])) (QSi r) 0 0 (fun _ => False) := by
  refine Met.ofW (cc := cX5_weekday) (maxL := 2) (ret := (some .int)) (by decide) rfl ?_
  intro p e s m args below meth c s₁ Bd hml hv
  obtain ⟨rfl, hZ, hP, hK⟩ := hv
  have hx := Bd.exec
  have hb := Bd.bytes
  have hr := Bd.returns
  have hts := atoms_spec (ws := wsX5_weekday) Bd.pre
  have hown : s.vm.findClass RX5 = some m.cls := findClass_of_methodNamed Bd.named
  have hlocks := Bd.notSynchronized
  have hl := lv_entry ([.int a0, .int a1]) (n := 2) (Nat.le_of_ble_eq_true rfl)
  rw [lg_entry_eq]
  generalize (lg_sl ([.int a0, .int a1]) ++ List.replicate (2 - (lg_sl ([.int a0, .int a1])).length) Slot.unset).toArray = ls at hl ⊢
  have hl : lv_has ls 2 [(0, .int a0), (1, .int a1)] := hl
  unfold f_X5_weekday at hf
  refine lv_iload_n hx hb dX5_weekday_0 rfl (lv_at hl 0 rfl) ?_
  refine lv_iload_n hx hb dX5_weekday_1 rfl (lv_at hl 1 rfl) ?_
  refine lv_iadd hx hb dX5_weekday_2 ?_
  refine lv_bipush (v := 7) hx hb dX5_weekday_3 (by decide) ?_
  refine lv_irem hx hb dX5_weekday_5 (by decide) ?_
  exact W.iret hx hb hr (fun t ht _ => ⟨_, rfl, Option.some.inj hf, ht⟩) (fun q hq => absurd hq List.not_mem_nil) dX5_weekday_6
def f_X5_isWorking_L17 (M : Nat → Int32) (mhol : Nat → Int32) (a0 : Int32)  : Nat → Int32 → Int32 → Option Int32
  | 0, _, _ => none
  | n6 + 1, x4, x5 => (if (M 5) ≤ x5 then some x4 else (if x4 = 0 then some x4 else gd (¬ (x5 < 0 ∨ 30 ≤ x5.toNatClampNeg)) ((if (mhol x5.toNatClampNeg) = a0 then bd (x5 + 1) fun x11 : Int32 => f_X5_isWorking_L17 M mhol a0 n6 0 x11 else bd (x5 + 1) fun x12 : Int32 => f_X5_isWorking_L17 M mhol a0 n6 1 x12))))
def f_X5_isWorking (N : Nat) (M : Nat → Int32) (mhol : Nat → Int32) (a0 : Int32) : Option Int32 :=
  (f_X5_weekday a0 4).bind fun v1 : Int32 => jn (fun (x3 : Int32) => f_X5_isWorking_L17 M mhol a0 N x3 0) fun K2 => (if 5 ≤ v1 then K2 0 else K2 1)
theorem inX5_isWorking_X5 : ∀ w ∈ wsX50, w ∈ wsX5_isWorking := by decide +kernel
set_option maxHeartbeats 4000000 in
set_option maxRecDepth 100000 in
theorem m_X5_isWorking (l : Launch) (D : va_G) (cI cJ cO : ClassId) (hm mh mo my mp : Nat) (M : Nat → Int32) (mc : Int64) (mhol mof mdy : Nat → Int32) (mpd : Nat → Int64) (a0 : Int32) (N : Nat) (r : Int32) (hf : f_X5_isWorking N M mhol a0 = some r) : Met l yX5_isWorking wsX5_isWorking ({ frames := 1, cells := 0, slots := 0, locals := 21 }) (va_Pc [.ref hm, .int a0] (pw D (ty3 cI cJ cO) none [eM hm mh mo my mp M mc, eH cI mh mhol, eO cI mo mof, eY cI my mdy, eP cJ mp mpd])) (QSz r) 0 0 (fun _ => False) := by
  refine Met.ofW (cc := cX5_isWorking) (maxL := 4) (ret := (some .boolean)) (by decide) rfl ?_
  intro p e s m args below meth c s₁ Bd hml hv
  obtain ⟨rfl, hZ, hP, hK⟩ := hv
  have hx := Bd.exec
  have hb := Bd.bytes
  have hr := Bd.returns
  have hts := atoms_spec (ws := wsX5_isWorking) Bd.pre
  have hown : s.vm.findClass RX5 = some m.cls := findClass_of_methodNamed Bd.named
  have hlocks := Bd.notSynchronized
  have hl := lv_entry ([.ref hm, .int a0]) (n := 4) (Nat.le_of_ble_eq_true rfl)
  rw [lg_entry_eq]
  generalize (lg_sl ([.ref hm, .int a0]) ++ List.replicate (4 - (lg_sl ([.ref hm, .int a0])).length) Slot.unset).toArray = ls at hl ⊢
  have hl : lv_has ls 4 [(0, .ref hm), (1, .int a0)] := hl
  unfold f_X5_isWorking at hf
  refine lv_iload_n hx hb dX5_isWorking_0 rfl (lv_at hl 1 rfl) ?_
  refine lv_iconst (v := 4) hx hb dX5_isWorking_1 (by decide) ?_
  obtain ⟨v1, hv1, hf⟩ := ob hf
  refine cSi (W.runS (As := [.int a0, .int 4]) (rest := []) ⟨hx, hb, hml, hown, hts⟩ (m_X5_weekday l D cI cJ cO a0 4 v1 hv1) (va_cwS 2 hts gX5_isWorking_X5_weekday rfl rfl rfl (by decide +kernel) ⟨Nat.le_of_ble_eq_true rfl, Nat.le_of_ble_eq_true rfl⟩) ⟨pw_blind, fun U hU hW => ⟨rfl, pw_at hZ va_S.rf hP hK hU hW (Or.inr rfl) [] rfl⟩⟩ rfl rfl hl.1 rfl (lv_room (Nat.le_of_ble_eq_true rfl)) dX5_isWorking_2 ⟨Nat.zero_le _, Nat.zero_le _⟩) ?_
  refine lv_iconst (v := 5) hx hb dX5_isWorking_5 (by decide) ?_
  obtain ⟨K2, hK2, hf⟩ := jn_s hf
  have JK2 : ∀ (x3 : Int32) (ls : Array Slot), lv_has ls 4 [(0, .ref hm), (1, .int a0)] → K2 x3 = some r → W p l e (headSpec wsX5_isWorking ({ frames := 1, cells := 0, slots := 0, locals := 21 })).room s m ([.ref hm, .int a0] : List Value).toArray below meth c s.heap [] 0 0 (MQ below (QSz r) ([.ref hm, .int a0] : List Value).toArray s 0 0 (fun _ => False)) (F0 m 14 ls [.int x3]) := by
    intro x3 ls hl hf
    rw [hK2] at hf
    refine lv_istore_n (lv' := [(2, .int x3), (0, .ref hm), (1, .int a0)]) hx hb dX5_isWorking_14 rfl hl (by decide) rfl (fun ls hl => ?_)
    refine lv_iconst (v := 0) hx hb dX5_isWorking_15 (by decide) ?_
    refine lv_istore_n (lv' := [(3, .int 0), (2, .int x3), (0, .ref hm), (1, .int a0)]) hx hb dX5_isWorking_16 rfl hl (by decide) rfl (fun ls hl => ?_)
    have LP17 : ∀ (n6 : Nat) (x4 : Int32) (x5 : Int32) (ls : Array Slot), lv_has ls 4 [(0, .ref hm), (1, .int a0), (2, .int x4), (3, .int x5)] → f_X5_isWorking_L17 M mhol a0 n6 x4 x5 = some r → W p l e (headSpec wsX5_isWorking ({ frames := 1, cells := 0, slots := 0, locals := 21 })).room s m ([.ref hm, .int a0] : List Value).toArray below meth c s.heap [] 0 0 (MQ below (QSz r) ([.ref hm, .int a0] : List Value).toArray s 0 0 (fun _ => False)) (F0 m 17 ls []) := by
      intro n6
      induction n6 with
      | zero => intro x4 x5 ls hl hf; exact (no_s hf).elim
      | succ n6 ih6 =>
        intro x4 x5 ls hl hf
        rw [f_X5_isWorking_L17] at hf
        refine lv_iload_n hx hb dX5_isWorking_17 rfl (lv_at hl 3 rfl) ?_
        refine lv_aload_n hx hb dX5_isWorking_18 rfl (lv_at hl 0 rfl) ?_
        refine va_get (D := D) (ci := 4) (v := .int (M 5)) (C := RX5) (T := TX5) (N := 10) hx hb hts inX5_isWorking_X5 hown hK hP 0 rfl rfl 5 (by decide) (hts (.fieldLink RX5 57 "BondDeskModel" "holidays" "I") (by decide +kernel)) (fun _ h9 => h9) rfl dX5_isWorking_19 ?_
        refine lv_icmp_ge (tgt := 51) hx hb dX5_isWorking_22 (by decide) (fun c7 => ?_) (fun c7 => ?_)
        · have hf := it hf c7
          refine lv_iload_n hx hb dX5_isWorking_51 rfl (lv_at hl 2 rfl) ?_
          exact W.zret hx hb hr (zn zx4) (fun t ht _ => ⟨_, rfl, ⟨Option.some.inj hf, zx4⟩, ht⟩) (fun q hq => absurd hq List.not_mem_nil) dX5_isWorking_52
        · have hf := ie hf c7
          refine lv_iload_n hx hb dX5_isWorking_25 rfl (lv_at hl 2 rfl) ?_
          refine lv_if_eq (tgt := 51) hx hb dX5_isWorking_26 (by decide) (fun c8 => ?_) (fun c8 => ?_)
          · have hf := it hf c8
            refine lv_iload_n hx hb dX5_isWorking_51 rfl (lv_at hl 2 rfl) ?_
            exact W.zret hx hb hr (zn zx4) (fun t ht _ => ⟨_, rfl, ⟨Option.some.inj hf, zx4⟩, ht⟩) (fun q hq => absurd hq List.not_mem_nil) dX5_isWorking_52
          · have hf := ie hf c8
            refine lv_aload_n hx hb dX5_isWorking_29 rfl (lv_at hl 0 rfl) ?_
            refine va_get (D := D) (ci := 4) (v := .ref mh) (C := RX5) (T := TX5) (N := 10) hx hb hts inX5_isWorking_X5 hown hK hP 0 rfl rfl 6 (by decide) (hts (.fieldLink RX5 27 "BondDeskModel" "holiday" "[I") (by decide +kernel)) (fun _ h9 => h9) rfl dX5_isWorking_30 ?_
            refine lv_iload_n hx hb dX5_isWorking_33 rfl (lv_at hl 3 rfl) ?_
            obtain ⟨c9, hf⟩ := gd_s hf
            refine va_iald hx hb hK hP 1 0 rfl rfl c9 dX5_isWorking_34 ?_
            refine lv_iload_n hx hb dX5_isWorking_35 rfl (lv_at hl 1 rfl) ?_
            refine lv_icmp_eq (tgt := 43) hx hb dX5_isWorking_36 (by decide) (fun c10 => ?_) (fun c10 => ?_)
            · have hf := it hf c10
              refine lv_iconst (v := 0) hx hb dX5_isWorking_43 (by decide) ?_
              refine lv_istore_n (lv' := [(2, .int 0), (0, .ref hm), (1, .int a0), (3, .int x5)]) hx hb dX5_isWorking_44 rfl hl (by decide) rfl (fun ls hl => ?_)
              obtain ⟨x11, ex11⟩ : ∃ y : Int32, y = x5 + 1 := ⟨_, rfl⟩
              have hf := bd_s hf ex11
              refine lv_iinc (v := x11) (lv' := [(3, .int x11), (2, .int 0), (0, .ref hm), (1, .int a0)]) hx hb dX5_isWorking_45 hl (k := 3) rfl (by rw [ex11]; rfl) (by decide) rfl (fun ls hl => ?_)
              refine lv_goto (tgt := 17) hx hb dX5_isWorking_48 (by decide) ?_
              exact ih6 0 x11 ls (lv_sub hl [2, 3, 1, 0] rfl) hf
            · have hf := ie hf c10
              refine lv_iconst (v := 1) hx hb dX5_isWorking_39 (by decide) ?_
              refine lv_goto (tgt := 44) hx hb dX5_isWorking_40 (by decide) ?_
              refine lv_istore_n (lv' := [(2, .int 1), (0, .ref hm), (1, .int a0), (3, .int x5)]) hx hb dX5_isWorking_44 rfl hl (by decide) rfl (fun ls hl => ?_)
              obtain ⟨x12, ex12⟩ : ∃ y : Int32, y = x5 + 1 := ⟨_, rfl⟩
              have hf := bd_s hf ex12
              refine lv_iinc (v := x12) (lv' := [(3, .int x12), (2, .int 1), (0, .ref hm), (1, .int a0)]) hx hb dX5_isWorking_45 hl (k := 3) rfl (by rw [ex12]; rfl) (by decide) rfl (fun ls hl => ?_)
              refine lv_goto (tgt := 17) hx hb dX5_isWorking_48 (by decide) ?_
              exact ih6 1 x12 ls (lv_sub hl [2, 3, 1, 0] rfl) hf
    exact LP17 N x3 0 ls (lv_sub hl [2, 3, 1, 0] rfl) hf
  refine lv_icmp_ge (tgt := 13) hx hb dX5_isWorking_6 (by decide) (fun c13 => ?_) (fun c13 => ?_)
  · have hf := it hf c13
    refine lv_iconst (v := 0) hx hb dX5_isWorking_13 (by decide) ?_
    exact JK2 0 ls (lv_sub hl [0, 1] rfl) hf
  · have hf := ie hf c13
    refine lv_iconst (v := 1) hx hb dX5_isWorking_9 (by decide) ?_
    refine lv_goto (tgt := 14) hx hb dX5_isWorking_10 (by decide) ?_
    exact JK2 1 ls (lv_sub hl [0, 1] rfl) hf
def f_X5_firstWorking_L2 (N : Nat) (M : Nat → Int32) (mhol : Nat → Int32)  : Nat → Int32 → Option Int32
  | 0, _ => none
  | n2 + 1, x1 => (f_X5_isWorking N M mhol x1).bind fun v3 : Int32 => (if v3 = 0 then bd (x1 + 1) fun x5 : Int32 => f_X5_firstWorking_L2 N M mhol n2 x5 else some x1)
def f_X5_firstWorking (N : Nat) (M : Nat → Int32) (mhol : Nat → Int32) (a0 : Int32) : Option Int32 :=
  f_X5_firstWorking_L2 N M mhol N a0
set_option maxHeartbeats 4000000 in
set_option maxRecDepth 100000 in
theorem m_X5_firstWorking (l : Launch) (D : va_G) (cI cJ cO : ClassId) (hm mh mo my mp : Nat) (M : Nat → Int32) (mc : Int64) (mhol mof mdy : Nat → Int32) (mpd : Nat → Int64) (a0 : Int32) (N : Nat) (r : Int32) (hf : f_X5_firstWorking N M mhol a0 = some r) : Met l yX5_firstWorking wsX5_firstWorking ({ frames := 2, cells := 0, slots := 0, locals := 44 }) (va_Pc [.ref hm, .int a0] (pw D (ty3 cI cJ cO) none [eM hm mh mo my mp M mc, eH cI mh mhol, eO cI mo mof, eY cI my mdy, eP cJ mp mpd])) (QSi r) 0 0 (fun _ => False) := by
  refine Met.ofW (cc := cX5_firstWorking) (maxL := 3) (ret := (some .int)) (by decide) rfl ?_
  intro p e s m args below meth c s₁ Bd hml hv
  obtain ⟨rfl, hZ, hP, hK⟩ := hv
  have hx := Bd.exec
  have hb := Bd.bytes
  have hr := Bd.returns
  have hts := atoms_spec (ws := wsX5_firstWorking) Bd.pre
  have hown : s.vm.findClass RX5 = some m.cls := findClass_of_methodNamed Bd.named
  have hlocks := Bd.notSynchronized
  have hl := lv_entry ([.ref hm, .int a0]) (n := 3) (Nat.le_of_ble_eq_true rfl)
  rw [lg_entry_eq]
  generalize (lg_sl ([.ref hm, .int a0]) ++ List.replicate (3 - (lg_sl ([.ref hm, .int a0])).length) Slot.unset).toArray = ls at hl ⊢
  have hl : lv_has ls 3 [(0, .ref hm), (1, .int a0)] := hl
  unfold f_X5_firstWorking at hf
  refine lv_iload_n hx hb dX5_firstWorking_0 rfl (lv_at hl 1 rfl) ?_
  refine lv_istore_n (lv' := [(2, .int a0), (0, .ref hm), (1, .int a0)]) hx hb dX5_firstWorking_1 rfl hl (by decide) rfl (fun ls hl => ?_)
  have LP2 : ∀ (n2 : Nat) (x1 : Int32) (ls : Array Slot), lv_has ls 3 [(0, .ref hm), (2, .int x1)] → f_X5_firstWorking_L2 N M mhol n2 x1 = some r → W p l e (headSpec wsX5_firstWorking ({ frames := 2, cells := 0, slots := 0, locals := 44 })).room s m ([.ref hm, .int a0] : List Value).toArray below meth c s.heap [] 0 0 (MQ below (QSi r) ([.ref hm, .int a0] : List Value).toArray s 0 0 (fun _ => False)) (F0 m 2 ls []) := by
    intro n2
    induction n2 with
    | zero => intro x1 ls hl hf; exact (no_s hf).elim
    | succ n2 ih2 =>
      intro x1 ls hl hf
      rw [f_X5_firstWorking_L2] at hf
      refine lv_aload_n hx hb dX5_firstWorking_2 rfl (lv_at hl 0 rfl) ?_
      refine lv_iload_n hx hb dX5_firstWorking_3 rfl (lv_at hl 1 rfl) ?_
      obtain ⟨v3, hv3, hf⟩ := ob hf
      refine cSz (W.runV (As := [.int x1]) (rest := []) ⟨hx, hb, hml, hown, hts⟩ (m_X5_isWorking l D cI cJ cO hm mh mo my mp M mc mhol mof mdy mpd x1 N v3 hv3) (cwV 1 hts gX5_firstWorking_X5_isWorking rfl rfl rfl (by decide +kernel) ⟨Nat.le_of_ble_eq_true rfl, Nat.le_of_ble_eq_true rfl⟩) ⟨pw_blind, va_recv hK hP (ci := 4) (q0 := 0) rfl rfl, fun U hU hW => ⟨rfl, pw_at hZ va_S.rf hP hK hU hW (Or.inr rfl) [0, 1, 2, 3, 4] rfl⟩⟩ rfl rfl hl.1 rfl (lv_room (Nat.le_of_ble_eq_true rfl)) dX5_firstWorking_4 ⟨Nat.zero_le _, Nat.zero_le _⟩) (fun zv3 => ?_)
      refine lv_if_ne (tgt := 16) hx hb dX5_firstWorking_7 (by decide) (fun c4 => ?_) (fun c4 => ?_)
      · have hf := ie hf c4
        refine lv_iload_n hx hb dX5_firstWorking_16 rfl (lv_at hl 1 rfl) ?_
        exact W.iret hx hb hr (fun t ht _ => ⟨_, rfl, Option.some.inj hf, ht⟩) (fun q hq => absurd hq List.not_mem_nil) dX5_firstWorking_17
      · have hf := it hf c4
        obtain ⟨x5, ex5⟩ : ∃ y : Int32, y = x1 + 1 := ⟨_, rfl⟩
        have hf := bd_s hf ex5
        refine lv_iinc (v := x5) (lv' := [(2, .int x5), (0, .ref hm)]) hx hb dX5_firstWorking_10 hl (k := 1) rfl (by rw [ex5]; rfl) (by decide) rfl (fun ls hl => ?_)
        refine lv_goto (tgt := 2) hx hb dX5_firstWorking_13 (by decide) ?_
        exact ih2 x5 ls (lv_sub hl [1, 0] rfl) hf
  exact LP2 N a0 ls (lv_sub hl [1, 0] rfl) hf
def f_X5_isBond (M : Nat → Int32) (a0 : Int32) : Option Int32 :=
  (f_X5_isIn a0 0 ((M 4) - 1)).bind fun v1 : Int32 => some v1
theorem inX5_isBond_X5 : ∀ w ∈ wsX50, w ∈ wsX5_isBond := by decide +kernel
set_option maxHeartbeats 4000000 in
set_option maxRecDepth 100000 in
theorem m_X5_isBond (l : Launch) (D : va_G) (cI cJ cO : ClassId) (hm mh mo my mp : Nat) (M : Nat → Int32) (mc : Int64) (mhol mof mdy : Nat → Int32) (mpd : Nat → Int64) (a0 : Int32) (r : Int32) (hf : f_X5_isBond M a0 = some r) : Met l yX5_isBond wsX5_isBond ({ frames := 1, cells := 0, slots := 0, locals := 22 }) (va_Pc [.ref hm, .int a0] (pw D (ty3 cI cJ cO) none [eM hm mh mo my mp M mc, eH cI mh mhol, eO cI mo mof, eY cI my mdy, eP cJ mp mpd])) (QSz r) 0 0 (fun _ => False) := by
  refine Met.ofW (cc := cX5_isBond) (maxL := 2) (ret := (some .boolean)) (by decide) rfl ?_
  intro p e s m args below meth c s₁ Bd hml hv
  obtain ⟨rfl, hZ, hP, hK⟩ := hv
  have hx := Bd.exec
  have hb := Bd.bytes
  have hr := Bd.returns
  have hts := atoms_spec (ws := wsX5_isBond) Bd.pre
  have hown : s.vm.findClass RX5 = some m.cls := findClass_of_methodNamed Bd.named
  have hlocks := Bd.notSynchronized
  have hl := lv_entry ([.ref hm, .int a0]) (n := 2) (Nat.le_of_ble_eq_true rfl)
  rw [lg_entry_eq]
  generalize (lg_sl ([.ref hm, .int a0]) ++ List.replicate (2 - (lg_sl ([.ref hm, .int a0])).length) Slot.unset).toArray = ls at hl ⊢
  have hl : lv_has ls 2 [(0, .ref hm), (1, .int a0)] := hl
  unfold f_X5_isBond at hf
  refine lv_iload_n hx hb dX5_isBond_0 rfl (lv_at hl 1 rfl) ?_
  refine lv_iconst (v := 0) hx hb dX5_isBond_1 (by decide) ?_
  refine lv_aload_n hx hb dX5_isBond_2 rfl (lv_at hl 0 rfl) ?_
  refine va_get (D := D) (ci := 4) (v := .int (M 4)) (C := RX5) (T := TX5) (N := 10) hx hb hts inX5_isBond_X5 hown hK hP 0 rfl rfl 4 (by decide) (hts (.fieldLink RX5 77 "BondDeskModel" "bonds" "I") (by decide +kernel)) (fun _ h9 => h9) rfl dX5_isBond_3 ?_
  refine lv_iconst (v := 1) hx hb dX5_isBond_6 (by decide) ?_
  refine lv_isub hx hb dX5_isBond_7 ?_
  obtain ⟨v1, hv1, hf⟩ := ob hf
  refine cSz (W.runS (As := [.int a0, .int 0, .int ((M 4) - 1)]) (rest := []) ⟨hx, hb, hml, hown, hts⟩ (m_X5_isIn l D cI cJ cO a0 0 ((M 4) - 1) v1 hv1) (va_cwS 3 hts gX5_isBond_X5_isIn rfl rfl rfl (by decide +kernel) ⟨Nat.le_of_ble_eq_true rfl, Nat.le_of_ble_eq_true rfl⟩) ⟨pw_blind, fun U hU hW => ⟨rfl, pw_at hZ va_S.rf hP hK hU hW (Or.inr rfl) [] rfl⟩⟩ rfl rfl hl.1 rfl (lv_room (Nat.le_of_ble_eq_true rfl)) dX5_isBond_8 ⟨Nat.zero_le _, Nat.zero_le _⟩) (fun zv1 => ?_)
  exact W.zret hx hb hr (zn zv1) (fun t ht _ => ⟨_, rfl, ⟨Option.some.inj hf, zv1⟩, ht⟩) (fun q hq => absurd hq List.not_mem_nil) dX5_isBond_11
def f_X5_own (mof : Nat → Int32) (a0 : Int32) (a1 : Int32) : Option Int32 :=
  bd ((14 * a0) + a1 : Int32) fun x1 : Int32 => gd (¬ (x1 < 0 ∨ 140 ≤ x1.toNatClampNeg)) (some (mof x1.toNatClampNeg))
theorem inX5_own_X5 : ∀ w ∈ wsX50, w ∈ wsX5_own := by decide +kernel
set_option maxHeartbeats 4000000 in
set_option maxRecDepth 100000 in
theorem m_X5_own (l : Launch) (D : va_G) (cI cJ cO : ClassId) (hm mh mo my mp : Nat) (M : Nat → Int32) (mc : Int64) (mhol mof mdy : Nat → Int32) (mpd : Nat → Int64) (a0 : Int32) (a1 : Int32) (r : Int32) (hf : f_X5_own mof a0 a1 = some r) : Met l yX5_own wsX5_own ({ frames := 0, cells := 0, slots := 0, locals := 0 }) (va_Pc [.ref hm, .int a0, .int a1] (pw D (ty3 cI cJ cO) none [eM hm mh mo my mp M mc, eH cI mh mhol, eO cI mo mof, eY cI my mdy, eP cJ mp mpd])) (QSi r) 0 0 (fun _ => False) := by
  refine Met.ofW (cc := cX5_own) (maxL := 3) (ret := (some .int)) (by decide) rfl ?_
  intro p e s m args below meth c s₁ Bd hml hv
  obtain ⟨rfl, hZ, hP, hK⟩ := hv
  have hx := Bd.exec
  have hb := Bd.bytes
  have hr := Bd.returns
  have hts := atoms_spec (ws := wsX5_own) Bd.pre
  have hown : s.vm.findClass RX5 = some m.cls := findClass_of_methodNamed Bd.named
  have hlocks := Bd.notSynchronized
  have hl := lv_entry ([.ref hm, .int a0, .int a1]) (n := 3) (Nat.le_of_ble_eq_true rfl)
  rw [lg_entry_eq]
  generalize (lg_sl ([.ref hm, .int a0, .int a1]) ++ List.replicate (3 - (lg_sl ([.ref hm, .int a0, .int a1])).length) Slot.unset).toArray = ls at hl ⊢
  have hl : lv_has ls 3 [(0, .ref hm), (1, .int a0), (2, .int a1)] := hl
  unfold f_X5_own at hf
  refine lv_aload_n hx hb dX5_own_0 rfl (lv_at hl 0 rfl) ?_
  refine va_get (D := D) (ci := 4) (v := .ref mo) (C := RX5) (T := TX5) (N := 10) hx hb hts inX5_own_X5 hown hK hP 0 rfl rfl 7 (by decide) (hts (.fieldLink RX5 31 "BondDeskModel" "of" "[I") (by decide +kernel)) (fun _ h9 => h9) rfl dX5_own_1 ?_
  refine lv_bipush (v := 14) hx hb dX5_own_4 (by decide) ?_
  refine lv_iload_n hx hb dX5_own_6 rfl (lv_at hl 1 rfl) ?_
  refine lv_imul hx hb dX5_own_7 ?_
  refine lv_iload_n hx hb dX5_own_8 rfl (lv_at hl 2 rfl) ?_
  refine lv_iadd hx hb dX5_own_9 ?_
  refine lv_topi (fun x1 ex1 => ?_)
  have hf := bd_s hf ex1
  obtain ⟨c2, hf⟩ := gd_s hf
  refine va_iald hx hb hK hP 2 0 rfl rfl c2 dX5_own_10 ?_
  exact W.iret hx hb hr (fun t ht _ => ⟨_, rfl, Option.some.inj hf, ht⟩) (fun q hq => absurd hq List.not_mem_nil) dX5_own_11
def f_X5_couponDay (mdy : Nat → Int32) (a0 : Int32) (a1 : Int32) : Option Int32 :=
  bd (((121 * a0) + a1) + 1 : Int32) fun x1 : Int32 => gd (¬ (x1 < 0 ∨ 1210 ≤ x1.toNatClampNeg)) (some (mdy x1.toNatClampNeg))
theorem inX5_couponDay_X5 : ∀ w ∈ wsX50, w ∈ wsX5_couponDay := by decide +kernel
set_option maxHeartbeats 4000000 in
set_option maxRecDepth 100000 in
theorem m_X5_couponDay (l : Launch) (D : va_G) (cI cJ cO : ClassId) (hm mh mo my mp : Nat) (M : Nat → Int32) (mc : Int64) (mhol mof mdy : Nat → Int32) (mpd : Nat → Int64) (a0 : Int32) (a1 : Int32) (r : Int32) (hf : f_X5_couponDay mdy a0 a1 = some r) : Met l yX5_couponDay wsX5_couponDay ({ frames := 0, cells := 0, slots := 0, locals := 0 }) (va_Pc [.ref hm, .int a0, .int a1] (pw D (ty3 cI cJ cO) none [eM hm mh mo my mp M mc, eH cI mh mhol, eO cI mo mof, eY cI my mdy, eP cJ mp mpd])) (QSi r) 0 0 (fun _ => False) := by
  refine Met.ofW (cc := cX5_couponDay) (maxL := 3) (ret := (some .int)) (by decide) rfl ?_
  intro p e s m args below meth c s₁ Bd hml hv
  obtain ⟨rfl, hZ, hP, hK⟩ := hv
  have hx := Bd.exec
  have hb := Bd.bytes
  have hr := Bd.returns
  have hts := atoms_spec (ws := wsX5_couponDay) Bd.pre
  have hown : s.vm.findClass RX5 = some m.cls := findClass_of_methodNamed Bd.named
  have hlocks := Bd.notSynchronized
  have hl := lv_entry ([.ref hm, .int a0, .int a1]) (n := 3) (Nat.le_of_ble_eq_true rfl)
  rw [lg_entry_eq]
  generalize (lg_sl ([.ref hm, .int a0, .int a1]) ++ List.replicate (3 - (lg_sl ([.ref hm, .int a0, .int a1])).length) Slot.unset).toArray = ls at hl ⊢
  have hl : lv_has ls 3 [(0, .ref hm), (1, .int a0), (2, .int a1)] := hl
  unfold f_X5_couponDay at hf
  refine lv_aload_n hx hb dX5_couponDay_0 rfl (lv_at hl 0 rfl) ?_
  refine va_get (D := D) (ci := 4) (v := .ref my) (C := RX5) (T := TX5) (N := 10) hx hb hts inX5_couponDay_X5 hown hK hP 0 rfl rfl 8 (by decide) (hts (.fieldLink RX5 34 "BondDeskModel" "day" "[I") (by decide +kernel)) (fun _ h9 => h9) rfl dX5_couponDay_1 ?_
  refine lv_bipush (v := 121) hx hb dX5_couponDay_4 (by decide) ?_
  refine lv_iload_n hx hb dX5_couponDay_6 rfl (lv_at hl 1 rfl) ?_
  refine lv_imul hx hb dX5_couponDay_7 ?_
  refine lv_iload_n hx hb dX5_couponDay_8 rfl (lv_at hl 2 rfl) ?_
  refine lv_iadd hx hb dX5_couponDay_9 ?_
  refine lv_iconst (v := 1) hx hb dX5_couponDay_10 (by decide) ?_
  refine lv_iadd hx hb dX5_couponDay_11 ?_
  refine lv_topi (fun x1 ex1 => ?_)
  have hf := bd_s hf ex1
  obtain ⟨c2, hf⟩ := gd_s hf
  refine va_iald hx hb hK hP 3 0 rfl rfl c2 dX5_couponDay_12 ?_
  exact W.iret hx hb hr (fun t ht _ => ⟨_, rfl, Option.some.inj hf, ht⟩) (fun q hq => absurd hq List.not_mem_nil) dX5_couponDay_13
def f_X5_moved (a0 : Int32) (a1 : Int32) : Option Int32 :=
  bd (((((a0 / 10000) * 12) + ((a0 / 100) - (a0 / 100) / 100 * 100)) - 1) - a1 : Int32) fun x1 : Int32 => bd (x1 / 12 : Int32) fun x2 : Int32 => (f_X5_length x2 ((x1 - x1 / 12 * 12) + 1)).bind fun v3 : Int32 => (f_X5_length (a0 / 10000) ((a0 / 100) - (a0 / 100) / 100 * 100)).bind fun v4 : Int32 => jn (fun (x6 : Int32) => (if x6 = 0 then bd (if (a0 - a0 / 100 * 100) < v3 then (a0 - a0 / 100 * 100) else v3 : Int32) fun x8 : Int32 => some (((10000 * x2) + (100 * ((x1 - x1 / 12 * 12) + 1))) + x8) else some (((10000 * x2) + (100 * ((x1 - x1 / 12 * 12) + 1))) + v3))) fun K5 => (if (a0 - a0 / 100 * 100) = v4 then K5 1 else K5 0)
set_option maxHeartbeats 4000000 in
set_option maxRecDepth 100000 in
theorem m_X5_moved (l : Launch) (D : va_G) (cI cJ cO : ClassId)  (a0 : Int32) (a1 : Int32) (r : Int32) (hf : f_X5_moved a0 a1 = some r) : Met l yX5_moved wsX5_moved ({ frames := 1, cells := 0, slots := 0, locals := 21 }) (va_Pc [.int a0, .int a1] (pw D (ty3 cI cJ cO) none [])) (QSi r) 0 0 (fun _ => False) := by
  refine Met.ofW (cc := cX5_moved) (maxL := 6) (ret := (some .int)) (by decide) rfl ?_
  intro p e s m args below meth c s₁ Bd hml hv
  obtain ⟨rfl, hZ, hP, hK⟩ := hv
  have hx := Bd.exec
  have hb := Bd.bytes
  have hr := Bd.returns
  have hts := atoms_spec (ws := wsX5_moved) Bd.pre
  have hown : s.vm.findClass RX5 = some m.cls := findClass_of_methodNamed Bd.named
  have hlocks := Bd.notSynchronized
  have hl := lv_entry ([.int a0, .int a1]) (n := 6) (Nat.le_of_ble_eq_true rfl)
  rw [lg_entry_eq]
  generalize (lg_sl ([.int a0, .int a1]) ++ List.replicate (6 - (lg_sl ([.int a0, .int a1])).length) Slot.unset).toArray = ls at hl ⊢
  have hl : lv_has ls 6 [(0, .int a0), (1, .int a1)] := hl
  unfold f_X5_moved at hf
  refine lv_iload_n hx hb dX5_moved_0 rfl (lv_at hl 0 rfl) ?_
  refine lv_sipush (v := 10000) hx hb dX5_moved_1 (by decide) ?_
  refine lv_idiv hx hb dX5_moved_4 (by decide) ?_
  refine lv_bipush (v := 12) hx hb dX5_moved_5 (by decide) ?_
  refine lv_imul hx hb dX5_moved_7 ?_
  refine lv_iload_n hx hb dX5_moved_8 rfl (lv_at hl 0 rfl) ?_
  refine lv_bipush (v := 100) hx hb dX5_moved_9 (by decide) ?_
  refine lv_idiv hx hb dX5_moved_11 (by decide) ?_
  refine lv_bipush (v := 100) hx hb dX5_moved_12 (by decide) ?_
  refine lv_irem hx hb dX5_moved_14 (by decide) ?_
  refine lv_iadd hx hb dX5_moved_15 ?_
  refine lv_iconst (v := 1) hx hb dX5_moved_16 (by decide) ?_
  refine lv_isub hx hb dX5_moved_17 ?_
  refine lv_iload_n hx hb dX5_moved_18 rfl (lv_at hl 1 rfl) ?_
  refine lv_isub hx hb dX5_moved_19 ?_
  refine lv_topi (fun x1 ex1 => ?_)
  have hf := bd_s hf ex1
  refine lv_istore_n (lv' := [(2, .int x1), (0, .int a0), (1, .int a1)]) hx hb dX5_moved_20 rfl hl (by decide) rfl (fun ls hl => ?_)
  refine lv_iload_n hx hb dX5_moved_21 rfl (lv_at hl 0 rfl) ?_
  refine lv_bipush (v := 12) hx hb dX5_moved_22 (by decide) ?_
  refine lv_idiv hx hb dX5_moved_24 (by decide) ?_
  refine lv_topi (fun x2 ex2 => ?_)
  have hf := bd_s hf ex2
  refine lv_istore_n (lv' := [(3, .int x2), (2, .int x1), (0, .int a0), (1, .int a1)]) hx hb dX5_moved_25 rfl hl (by decide) rfl (fun ls hl => ?_)
  refine lv_iload_n hx hb dX5_moved_26 rfl (lv_at hl 0 rfl) ?_
  refine lv_iload_n hx hb dX5_moved_27 rfl (lv_at hl 1 rfl) ?_
  refine lv_bipush (v := 12) hx hb dX5_moved_28 (by decide) ?_
  refine lv_irem hx hb dX5_moved_30 (by decide) ?_
  refine lv_iconst (v := 1) hx hb dX5_moved_31 (by decide) ?_
  refine lv_iadd hx hb dX5_moved_32 ?_
  obtain ⟨v3, hv3, hf⟩ := ob hf
  refine cSi (W.runS (As := [.int x2, .int ((x1 - x1 / 12 * 12) + 1)]) (rest := []) ⟨hx, hb, hml, hown, hts⟩ (m_X5_length l D cI cJ cO x2 ((x1 - x1 / 12 * 12) + 1) v3 hv3) (va_cwS 2 hts gX5_moved_X5_length rfl rfl rfl (by decide +kernel) ⟨Nat.le_of_ble_eq_true rfl, Nat.le_of_ble_eq_true rfl⟩) ⟨pw_blind, fun U hU hW => ⟨rfl, pw_at hZ va_S.rf hP hK hU hW (Or.inr rfl) [] rfl⟩⟩ rfl rfl hl.1 rfl (lv_room (Nat.le_of_ble_eq_true rfl)) dX5_moved_33 ⟨Nat.zero_le _, Nat.zero_le _⟩) ?_
  refine lv_istore (lv' := [(4, .int v3), (3, .int x2), (2, .int x1), (0, .int a0), (1, .int a1)]) hx hb dX5_moved_36 hl (by decide) rfl (fun ls hl => ?_)
  refine lv_iload_n hx hb dX5_moved_38 rfl (lv_at hl 3 rfl) ?_
  refine lv_bipush (v := 100) hx hb dX5_moved_39 (by decide) ?_
  refine lv_irem hx hb dX5_moved_41 (by decide) ?_
  refine lv_iload_n hx hb dX5_moved_42 rfl (lv_at hl 3 rfl) ?_
  refine lv_sipush (v := 10000) hx hb dX5_moved_43 (by decide) ?_
  refine lv_idiv hx hb dX5_moved_46 (by decide) ?_
  refine lv_iload_n hx hb dX5_moved_47 rfl (lv_at hl 3 rfl) ?_
  refine lv_bipush (v := 100) hx hb dX5_moved_48 (by decide) ?_
  refine lv_idiv hx hb dX5_moved_50 (by decide) ?_
  refine lv_bipush (v := 100) hx hb dX5_moved_51 (by decide) ?_
  refine lv_irem hx hb dX5_moved_53 (by decide) ?_
  obtain ⟨v4, hv4, hf⟩ := ob hf
  refine cSi (W.runS (As := [.int (a0 / 10000), .int ((a0 / 100) - (a0 / 100) / 100 * 100)]) (rest := [.int (a0 - a0 / 100 * 100)]) ⟨hx, hb, hml, hown, hts⟩ (m_X5_length l D cI cJ cO (a0 / 10000) ((a0 / 100) - (a0 / 100) / 100 * 100) v4 hv4) (va_cwS 2 hts gX5_moved_X5_length rfl rfl rfl (by decide +kernel) ⟨Nat.le_of_ble_eq_true rfl, Nat.le_of_ble_eq_true rfl⟩) ⟨pw_blind, fun U hU hW => ⟨rfl, pw_at hZ va_S.rf hP hK hU hW (Or.inr rfl) [] rfl⟩⟩ rfl rfl hl.1 rfl (lv_room (Nat.le_of_ble_eq_true rfl)) dX5_moved_54 ⟨Nat.zero_le _, Nat.zero_le _⟩) ?_
  obtain ⟨K5, hK5, hf⟩ := jn_s hf
  have JK5 : ∀ (x6 : Int32) (ls : Array Slot), lv_has ls 6 [(0, .int a0), (2, .int x1), (3, .int x2), (4, .int v3)] → K5 x6 = some r → W p l e (headSpec wsX5_moved ({ frames := 1, cells := 0, slots := 0, locals := 21 })).room s m ([.int a0, .int a1] : List Value).toArray below meth c s.heap [] 0 0 (MQ below (QSi r) ([.int a0, .int a1] : List Value).toArray s 0 0 (fun _ => False)) (F0 m 65 ls [.int x6]) := by
    intro x6 ls hl hf
    rw [hK5] at hf
    refine lv_istore (lv' := [(5, .int x6), (0, .int a0), (2, .int x1), (3, .int x2), (4, .int v3)]) hx hb dX5_moved_65 hl (by decide) rfl (fun ls hl => ?_)
    refine lv_sipush (v := 10000) hx hb dX5_moved_67 (by decide) ?_
    refine lv_iload_n hx hb dX5_moved_70 rfl (lv_at hl 3 rfl) ?_
    refine lv_imul hx hb dX5_moved_71 ?_
    refine lv_bipush (v := 100) hx hb dX5_moved_72 (by decide) ?_
    refine lv_iload_n hx hb dX5_moved_74 rfl (lv_at hl 2 rfl) ?_
    refine lv_bipush (v := 12) hx hb dX5_moved_75 (by decide) ?_
    refine lv_irem hx hb dX5_moved_77 (by decide) ?_
    refine lv_iconst (v := 1) hx hb dX5_moved_78 (by decide) ?_
    refine lv_iadd hx hb dX5_moved_79 ?_
    refine lv_imul hx hb dX5_moved_80 ?_
    refine lv_iadd hx hb dX5_moved_81 ?_
    refine lv_iload hx hb dX5_moved_82 (lv_at hl 0 rfl) ?_
    refine lv_if_eq (tgt := 92) hx hb dX5_moved_84 (by decide) (fun c7 => ?_) (fun c7 => ?_)
    · have hf := it hf c7
      refine lv_iload hx hb dX5_moved_92 (lv_at hl 4 rfl) ?_
      refine lv_iload_n hx hb dX5_moved_94 rfl (lv_at hl 1 rfl) ?_
      refine lv_bipush (v := 100) hx hb dX5_moved_95 (by decide) ?_
      refine lv_irem hx hb dX5_moved_97 (by decide) ?_
      refine va_mmin hx hb (hml.trans hl.1.symm) hown (hts (.methodLink RX5 80 Lib.Math.min.name) (by decide +kernel)) (hts (.static Lib.Math.min.name) (by decide +kernel)) (hts (.initialized "java/lang/Math") (by decide +kernel)) (hts (.code Lib.Math.min.name Lib.Math.min.code 2 (some .int)) (by decide +kernel)) (Nat.le_of_ble_eq_true rfl) (Nat.le_of_ble_eq_true rfl) (Nat.zero_le _) (Nat.zero_le _) dX5_moved_98 ?_
      refine lv_topi (fun x8 ex8 => ?_)
      have hf := bd_s hf ex8
      refine lv_iadd hx hb dX5_moved_101 ?_
      exact W.iret hx hb hr (fun t ht _ => ⟨_, rfl, Option.some.inj hf, ht⟩) (fun q hq => absurd hq List.not_mem_nil) dX5_moved_102
    · have hf := ie hf c7
      refine lv_iload hx hb dX5_moved_87 (lv_at hl 4 rfl) ?_
      refine lv_goto (tgt := 101) hx hb dX5_moved_89 (by decide) ?_
      refine lv_iadd hx hb dX5_moved_101 ?_
      exact W.iret hx hb hr (fun t ht _ => ⟨_, rfl, Option.some.inj hf, ht⟩) (fun q hq => absurd hq List.not_mem_nil) dX5_moved_102
  refine lv_icmp_ne (tgt := 64) hx hb dX5_moved_57 (by decide) (fun c9 => ?_) (fun c9 => ?_)
  · have hf := ie hf c9
    refine lv_iconst (v := 0) hx hb dX5_moved_64 (by decide) ?_
    exact JK5 0 ls (lv_sub hl [3, 2, 1, 0] rfl) hf
  · have hf := it hf c9
    refine lv_iconst (v := 1) hx hb dX5_moved_60 (by decide) ?_
    refine lv_goto (tgt := 65) hx hb dX5_moved_61 (by decide) ?_
    exact JK5 1 ls (lv_sub hl [3, 2, 1, 0] rfl) hf
def f_X5_isThere (mof : Nat → Int32) (a0 : Int32) : Option Int32 :=
  (f_X5_own mof a0 8).bind fun v1 : Int32 => (if v1 = 0 then some 1 else some 0)
set_option maxHeartbeats 4000000 in
set_option maxRecDepth 100000 in
theorem m_X5_isThere (l : Launch) (D : va_G) (cI cJ cO : ClassId) (hm mh mo my mp : Nat) (M : Nat → Int32) (mc : Int64) (mhol mof mdy : Nat → Int32) (mpd : Nat → Int64) (a0 : Int32) (r : Int32) (hf : f_X5_isThere mof a0 = some r) : Met l yX5_isThere wsX5_isThere ({ frames := 1, cells := 0, slots := 0, locals := 22 }) (va_Pc [.ref hm, .int a0] (pw D (ty3 cI cJ cO) none [eM hm mh mo my mp M mc, eH cI mh mhol, eO cI mo mof, eY cI my mdy, eP cJ mp mpd])) (QSz r) 0 0 (fun _ => False) := by
  refine Met.ofW (cc := cX5_isThere) (maxL := 2) (ret := (some .boolean)) (by decide) rfl ?_
  intro p e s m args below meth c s₁ Bd hml hv
  obtain ⟨rfl, hZ, hP, hK⟩ := hv
  have hx := Bd.exec
  have hb := Bd.bytes
  have hr := Bd.returns
  have hts := atoms_spec (ws := wsX5_isThere) Bd.pre
  have hown : s.vm.findClass RX5 = some m.cls := findClass_of_methodNamed Bd.named
  have hlocks := Bd.notSynchronized
  have hl := lv_entry ([.ref hm, .int a0]) (n := 2) (Nat.le_of_ble_eq_true rfl)
  rw [lg_entry_eq]
  generalize (lg_sl ([.ref hm, .int a0]) ++ List.replicate (2 - (lg_sl ([.ref hm, .int a0])).length) Slot.unset).toArray = ls at hl ⊢
  have hl : lv_has ls 2 [(0, .ref hm), (1, .int a0)] := hl
  unfold f_X5_isThere at hf
  refine lv_aload_n hx hb dX5_isThere_0 rfl (lv_at hl 0 rfl) ?_
  refine lv_iload_n hx hb dX5_isThere_1 rfl (lv_at hl 1 rfl) ?_
  refine lv_bipush (v := 8) hx hb dX5_isThere_2 (by decide) ?_
  obtain ⟨v1, hv1, hf⟩ := ob hf
  refine cSi (W.runV (As := [.int a0, .int 8]) (rest := []) ⟨hx, hb, hml, hown, hts⟩ (m_X5_own l D cI cJ cO hm mh mo my mp M mc mhol mof mdy mpd a0 8 v1 hv1) (cwV 2 hts gX5_isThere_X5_own rfl rfl rfl (by decide +kernel) ⟨Nat.le_of_ble_eq_true rfl, Nat.le_of_ble_eq_true rfl⟩) ⟨pw_blind, va_recv hK hP (ci := 4) (q0 := 0) rfl rfl, fun U hU hW => ⟨rfl, pw_at hZ va_S.rf hP hK hU hW (Or.inr rfl) [0, 1, 2, 3, 4] rfl⟩⟩ rfl rfl hl.1 rfl (lv_room (Nat.le_of_ble_eq_true rfl)) dX5_isThere_4 ⟨Nat.zero_le _, Nat.zero_le _⟩) ?_
  refine lv_if_ne (tgt := 14) hx hb dX5_isThere_7 (by decide) (fun c2 => ?_) (fun c2 => ?_)
  · have hf := ie hf c2
    refine lv_iconst (v := 0) hx hb dX5_isThere_14 (by decide) ?_
    exact W.zret hx hb hr (zn (Or.inl rfl)) (fun t ht _ => ⟨_, rfl, ⟨Option.some.inj hf, (Or.inl rfl)⟩, ht⟩) (fun q hq => absurd hq List.not_mem_nil) dX5_isThere_15
  · have hf := it hf c2
    refine lv_iconst (v := 1) hx hb dX5_isThere_10 (by decide) ?_
    refine lv_goto (tgt := 15) hx hb dX5_isThere_11 (by decide) ?_
    exact W.zret hx hb hr (zn (Or.inr rfl)) (fun t ht _ => ⟨_, rfl, ⟨Option.some.inj hf, (Or.inr rfl)⟩, ht⟩) (fun q hq => absurd hq List.not_mem_nil) dX5_isThere_15
def f_X5_isSunk (mof : Nat → Int32) (mdy : Nat → Int32) (a0 : Int32) (a1 : Int32) : Option Int32 :=
  (f_X5_own mof a0 11).bind fun v1 : Int32 => (if v1 ≤ 0 then some 0 else (f_X5_own mof a0 6).bind fun v3 : Int32 => (if (v3 - 1) ≤ a1 then some 0 else (f_X5_couponDay mdy a0 a1).bind fun v5 : Int32 => (f_X5_own mof a0 10).bind fun v6 : Int32 => (if v5 < v6 then some 0 else some 1)))
set_option maxHeartbeats 4000000 in
set_option maxRecDepth 100000 in
theorem m_X5_isSunk (l : Launch) (D : va_G) (cI cJ cO : ClassId) (hm mh mo my mp : Nat) (M : Nat → Int32) (mc : Int64) (mhol mof mdy : Nat → Int32) (mpd : Nat → Int64) (a0 : Int32) (a1 : Int32) (r : Int32) (hf : f_X5_isSunk mof mdy a0 a1 = some r) : Met l yX5_isSunk wsX5_isSunk ({ frames := 1, cells := 0, slots := 0, locals := 22 }) (va_Pc [.ref hm, .int a0, .int a1] (pw D (ty3 cI cJ cO) none [eM hm mh mo my mp M mc, eH cI mh mhol, eO cI mo mof, eY cI my mdy, eP cJ mp mpd])) (QSz r) 0 0 (fun _ => False) := by
  refine Met.ofW (cc := cX5_isSunk) (maxL := 3) (ret := (some .boolean)) (by decide) rfl ?_
  intro p e s m args below meth c s₁ Bd hml hv
  obtain ⟨rfl, hZ, hP, hK⟩ := hv
  have hx := Bd.exec
  have hb := Bd.bytes
  have hr := Bd.returns
  have hts := atoms_spec (ws := wsX5_isSunk) Bd.pre
  have hown : s.vm.findClass RX5 = some m.cls := findClass_of_methodNamed Bd.named
  have hlocks := Bd.notSynchronized
  have hl := lv_entry ([.ref hm, .int a0, .int a1]) (n := 3) (Nat.le_of_ble_eq_true rfl)
  rw [lg_entry_eq]
  generalize (lg_sl ([.ref hm, .int a0, .int a1]) ++ List.replicate (3 - (lg_sl ([.ref hm, .int a0, .int a1])).length) Slot.unset).toArray = ls at hl ⊢
  have hl : lv_has ls 3 [(0, .ref hm), (1, .int a0), (2, .int a1)] := hl
  unfold f_X5_isSunk at hf
  refine lv_aload_n hx hb dX5_isSunk_0 rfl (lv_at hl 0 rfl) ?_
  refine lv_iload_n hx hb dX5_isSunk_1 rfl (lv_at hl 1 rfl) ?_
  refine lv_bipush (v := 11) hx hb dX5_isSunk_2 (by decide) ?_
  obtain ⟨v1, hv1, hf⟩ := ob hf
  refine cSi (W.runV (As := [.int a0, .int 11]) (rest := []) ⟨hx, hb, hml, hown, hts⟩ (m_X5_own l D cI cJ cO hm mh mo my mp M mc mhol mof mdy mpd a0 11 v1 hv1) (cwV 2 hts gX5_isSunk_X5_own rfl rfl rfl (by decide +kernel) ⟨Nat.le_of_ble_eq_true rfl, Nat.le_of_ble_eq_true rfl⟩) ⟨pw_blind, va_recv hK hP (ci := 4) (q0 := 0) rfl rfl, fun U hU hW => ⟨rfl, pw_at hZ va_S.rf hP hK hU hW (Or.inr rfl) [0, 1, 2, 3, 4] rfl⟩⟩ rfl rfl hl.1 rfl (lv_room (Nat.le_of_ble_eq_true rfl)) dX5_isSunk_4 ⟨Nat.zero_le _, Nat.zero_le _⟩) ?_
  refine lv_if_le (tgt := 43) hx hb dX5_isSunk_7 (by decide) (fun c2 => ?_) (fun c2 => ?_)
  · have hf := it hf c2
    refine lv_iconst (v := 0) hx hb dX5_isSunk_43 (by decide) ?_
    exact W.zret hx hb hr (zn (Or.inl rfl)) (fun t ht _ => ⟨_, rfl, ⟨Option.some.inj hf, (Or.inl rfl)⟩, ht⟩) (fun q hq => absurd hq List.not_mem_nil) dX5_isSunk_44
  · have hf := ie hf c2
    refine lv_iload_n hx hb dX5_isSunk_10 rfl (lv_at hl 2 rfl) ?_
    refine lv_aload_n hx hb dX5_isSunk_11 rfl (lv_at hl 0 rfl) ?_
    refine lv_iload_n hx hb dX5_isSunk_12 rfl (lv_at hl 1 rfl) ?_
    refine lv_bipush (v := 6) hx hb dX5_isSunk_13 (by decide) ?_
    obtain ⟨v3, hv3, hf⟩ := ob hf
    refine cSi (W.runV (As := [.int a0, .int 6]) (rest := [.int a1]) ⟨hx, hb, hml, hown, hts⟩ (m_X5_own l D cI cJ cO hm mh mo my mp M mc mhol mof mdy mpd a0 6 v3 hv3) (cwV 2 hts gX5_isSunk_X5_own rfl rfl rfl (by decide +kernel) ⟨Nat.le_of_ble_eq_true rfl, Nat.le_of_ble_eq_true rfl⟩) ⟨pw_blind, va_recv hK hP (ci := 4) (q0 := 0) rfl rfl, fun U hU hW => ⟨rfl, pw_at hZ va_S.rf hP hK hU hW (Or.inr rfl) [0, 1, 2, 3, 4] rfl⟩⟩ rfl rfl hl.1 rfl (lv_room (Nat.le_of_ble_eq_true rfl)) dX5_isSunk_15 ⟨Nat.zero_le _, Nat.zero_le _⟩) ?_
    refine lv_iconst (v := 1) hx hb dX5_isSunk_18 (by decide) ?_
    refine lv_isub hx hb dX5_isSunk_19 ?_
    refine lv_icmp_ge (tgt := 43) hx hb dX5_isSunk_20 (by decide) (fun c4 => ?_) (fun c4 => ?_)
    · have hf := it hf c4
      refine lv_iconst (v := 0) hx hb dX5_isSunk_43 (by decide) ?_
      exact W.zret hx hb hr (zn (Or.inl rfl)) (fun t ht _ => ⟨_, rfl, ⟨Option.some.inj hf, (Or.inl rfl)⟩, ht⟩) (fun q hq => absurd hq List.not_mem_nil) dX5_isSunk_44
    · have hf := ie hf c4
      refine lv_aload_n hx hb dX5_isSunk_23 rfl (lv_at hl 0 rfl) ?_
      refine lv_iload_n hx hb dX5_isSunk_24 rfl (lv_at hl 1 rfl) ?_
      refine lv_iload_n hx hb dX5_isSunk_25 rfl (lv_at hl 2 rfl) ?_
      obtain ⟨v5, hv5, hf⟩ := ob hf
      refine cSi (W.runV (As := [.int a0, .int a1]) (rest := []) ⟨hx, hb, hml, hown, hts⟩ (m_X5_couponDay l D cI cJ cO hm mh mo my mp M mc mhol mof mdy mpd a0 a1 v5 hv5) (cwV 2 hts gX5_isSunk_X5_couponDay rfl rfl rfl (by decide +kernel) ⟨Nat.le_of_ble_eq_true rfl, Nat.le_of_ble_eq_true rfl⟩) ⟨pw_blind, va_recv hK hP (ci := 4) (q0 := 0) rfl rfl, fun U hU hW => ⟨rfl, pw_at hZ va_S.rf hP hK hU hW (Or.inr rfl) [0, 1, 2, 3, 4] rfl⟩⟩ rfl rfl hl.1 rfl (lv_room (Nat.le_of_ble_eq_true rfl)) dX5_isSunk_26 ⟨Nat.zero_le _, Nat.zero_le _⟩) ?_
      refine lv_aload_n hx hb dX5_isSunk_29 rfl (lv_at hl 0 rfl) ?_
      refine lv_iload_n hx hb dX5_isSunk_30 rfl (lv_at hl 1 rfl) ?_
      refine lv_bipush (v := 10) hx hb dX5_isSunk_31 (by decide) ?_
      obtain ⟨v6, hv6, hf⟩ := ob hf
      refine cSi (W.runV (As := [.int a0, .int 10]) (rest := [.int v5]) ⟨hx, hb, hml, hown, hts⟩ (m_X5_own l D cI cJ cO hm mh mo my mp M mc mhol mof mdy mpd a0 10 v6 hv6) (cwV 2 hts gX5_isSunk_X5_own rfl rfl rfl (by decide +kernel) ⟨Nat.le_of_ble_eq_true rfl, Nat.le_of_ble_eq_true rfl⟩) ⟨pw_blind, va_recv hK hP (ci := 4) (q0 := 0) rfl rfl, fun U hU hW => ⟨rfl, pw_at hZ va_S.rf hP hK hU hW (Or.inr rfl) [0, 1, 2, 3, 4] rfl⟩⟩ rfl rfl hl.1 rfl (lv_room (Nat.le_of_ble_eq_true rfl)) dX5_isSunk_33 ⟨Nat.zero_le _, Nat.zero_le _⟩) ?_
      refine lv_icmp_lt (tgt := 43) hx hb dX5_isSunk_36 (by decide) (fun c7 => ?_) (fun c7 => ?_)
      · have hf := it hf c7
        refine lv_iconst (v := 0) hx hb dX5_isSunk_43 (by decide) ?_
        exact W.zret hx hb hr (zn (Or.inl rfl)) (fun t ht _ => ⟨_, rfl, ⟨Option.some.inj hf, (Or.inl rfl)⟩, ht⟩) (fun q hq => absurd hq List.not_mem_nil) dX5_isSunk_44
      · have hf := ie hf c7
        refine lv_iconst (v := 1) hx hb dX5_isSunk_39 (by decide) ?_
        refine lv_goto (tgt := 44) hx hb dX5_isSunk_40 (by decide) ?_
        exact W.zret hx hb hr (zn (Or.inr rfl)) (fun t ht _ => ⟨_, rfl, ⟨Option.some.inj hf, (Or.inr rfl)⟩, ht⟩) (fun q hq => absurd hq List.not_mem_nil) dX5_isSunk_44
def f_X5_isCalled (mof : Nat → Int32) (mdy : Nat → Int32) (a0 : Int32) (a1 : Int32) : Option Int32 :=
  (f_X5_own mof a0 13).bind fun v1 : Int32 => (if v1 ≤ 0 then some 0 else (f_X5_own mof a0 6).bind fun v3 : Int32 => (if (v3 - 1) ≤ a1 then some 0 else (f_X5_couponDay mdy a0 a1).bind fun v5 : Int32 => (f_X5_own mof a0 12).bind fun v6 : Int32 => (if v5 < v6 then some 0 else some 1)))
set_option maxHeartbeats 4000000 in
set_option maxRecDepth 100000 in
theorem m_X5_isCalled (l : Launch) (D : va_G) (cI cJ cO : ClassId) (hm mh mo my mp : Nat) (M : Nat → Int32) (mc : Int64) (mhol mof mdy : Nat → Int32) (mpd : Nat → Int64) (a0 : Int32) (a1 : Int32) (r : Int32) (hf : f_X5_isCalled mof mdy a0 a1 = some r) : Met l yX5_isCalled wsX5_isCalled ({ frames := 1, cells := 0, slots := 0, locals := 22 }) (va_Pc [.ref hm, .int a0, .int a1] (pw D (ty3 cI cJ cO) none [eM hm mh mo my mp M mc, eH cI mh mhol, eO cI mo mof, eY cI my mdy, eP cJ mp mpd])) (QSz r) 0 0 (fun _ => False) := by
  refine Met.ofW (cc := cX5_isCalled) (maxL := 3) (ret := (some .boolean)) (by decide) rfl ?_
  intro p e s m args below meth c s₁ Bd hml hv
  obtain ⟨rfl, hZ, hP, hK⟩ := hv
  have hx := Bd.exec
  have hb := Bd.bytes
  have hr := Bd.returns
  have hts := atoms_spec (ws := wsX5_isCalled) Bd.pre
  have hown : s.vm.findClass RX5 = some m.cls := findClass_of_methodNamed Bd.named
  have hlocks := Bd.notSynchronized
  have hl := lv_entry ([.ref hm, .int a0, .int a1]) (n := 3) (Nat.le_of_ble_eq_true rfl)
  rw [lg_entry_eq]
  generalize (lg_sl ([.ref hm, .int a0, .int a1]) ++ List.replicate (3 - (lg_sl ([.ref hm, .int a0, .int a1])).length) Slot.unset).toArray = ls at hl ⊢
  have hl : lv_has ls 3 [(0, .ref hm), (1, .int a0), (2, .int a1)] := hl
  unfold f_X5_isCalled at hf
  refine lv_aload_n hx hb dX5_isCalled_0 rfl (lv_at hl 0 rfl) ?_
  refine lv_iload_n hx hb dX5_isCalled_1 rfl (lv_at hl 1 rfl) ?_
  refine lv_bipush (v := 13) hx hb dX5_isCalled_2 (by decide) ?_
  obtain ⟨v1, hv1, hf⟩ := ob hf
  refine cSi (W.runV (As := [.int a0, .int 13]) (rest := []) ⟨hx, hb, hml, hown, hts⟩ (m_X5_own l D cI cJ cO hm mh mo my mp M mc mhol mof mdy mpd a0 13 v1 hv1) (cwV 2 hts gX5_isCalled_X5_own rfl rfl rfl (by decide +kernel) ⟨Nat.le_of_ble_eq_true rfl, Nat.le_of_ble_eq_true rfl⟩) ⟨pw_blind, va_recv hK hP (ci := 4) (q0 := 0) rfl rfl, fun U hU hW => ⟨rfl, pw_at hZ va_S.rf hP hK hU hW (Or.inr rfl) [0, 1, 2, 3, 4] rfl⟩⟩ rfl rfl hl.1 rfl (lv_room (Nat.le_of_ble_eq_true rfl)) dX5_isCalled_4 ⟨Nat.zero_le _, Nat.zero_le _⟩) ?_
  refine lv_if_le (tgt := 43) hx hb dX5_isCalled_7 (by decide) (fun c2 => ?_) (fun c2 => ?_)
  · have hf := it hf c2
    refine lv_iconst (v := 0) hx hb dX5_isCalled_43 (by decide) ?_
    exact W.zret hx hb hr (zn (Or.inl rfl)) (fun t ht _ => ⟨_, rfl, ⟨Option.some.inj hf, (Or.inl rfl)⟩, ht⟩) (fun q hq => absurd hq List.not_mem_nil) dX5_isCalled_44
  · have hf := ie hf c2
    refine lv_iload_n hx hb dX5_isCalled_10 rfl (lv_at hl 2 rfl) ?_
    refine lv_aload_n hx hb dX5_isCalled_11 rfl (lv_at hl 0 rfl) ?_
    refine lv_iload_n hx hb dX5_isCalled_12 rfl (lv_at hl 1 rfl) ?_
    refine lv_bipush (v := 6) hx hb dX5_isCalled_13 (by decide) ?_
    obtain ⟨v3, hv3, hf⟩ := ob hf
    refine cSi (W.runV (As := [.int a0, .int 6]) (rest := [.int a1]) ⟨hx, hb, hml, hown, hts⟩ (m_X5_own l D cI cJ cO hm mh mo my mp M mc mhol mof mdy mpd a0 6 v3 hv3) (cwV 2 hts gX5_isCalled_X5_own rfl rfl rfl (by decide +kernel) ⟨Nat.le_of_ble_eq_true rfl, Nat.le_of_ble_eq_true rfl⟩) ⟨pw_blind, va_recv hK hP (ci := 4) (q0 := 0) rfl rfl, fun U hU hW => ⟨rfl, pw_at hZ va_S.rf hP hK hU hW (Or.inr rfl) [0, 1, 2, 3, 4] rfl⟩⟩ rfl rfl hl.1 rfl (lv_room (Nat.le_of_ble_eq_true rfl)) dX5_isCalled_15 ⟨Nat.zero_le _, Nat.zero_le _⟩) ?_
    refine lv_iconst (v := 1) hx hb dX5_isCalled_18 (by decide) ?_
    refine lv_isub hx hb dX5_isCalled_19 ?_
    refine lv_icmp_ge (tgt := 43) hx hb dX5_isCalled_20 (by decide) (fun c4 => ?_) (fun c4 => ?_)
    · have hf := it hf c4
      refine lv_iconst (v := 0) hx hb dX5_isCalled_43 (by decide) ?_
      exact W.zret hx hb hr (zn (Or.inl rfl)) (fun t ht _ => ⟨_, rfl, ⟨Option.some.inj hf, (Or.inl rfl)⟩, ht⟩) (fun q hq => absurd hq List.not_mem_nil) dX5_isCalled_44
    · have hf := ie hf c4
      refine lv_aload_n hx hb dX5_isCalled_23 rfl (lv_at hl 0 rfl) ?_
      refine lv_iload_n hx hb dX5_isCalled_24 rfl (lv_at hl 1 rfl) ?_
      refine lv_iload_n hx hb dX5_isCalled_25 rfl (lv_at hl 2 rfl) ?_
      obtain ⟨v5, hv5, hf⟩ := ob hf
      refine cSi (W.runV (As := [.int a0, .int a1]) (rest := []) ⟨hx, hb, hml, hown, hts⟩ (m_X5_couponDay l D cI cJ cO hm mh mo my mp M mc mhol mof mdy mpd a0 a1 v5 hv5) (cwV 2 hts gX5_isCalled_X5_couponDay rfl rfl rfl (by decide +kernel) ⟨Nat.le_of_ble_eq_true rfl, Nat.le_of_ble_eq_true rfl⟩) ⟨pw_blind, va_recv hK hP (ci := 4) (q0 := 0) rfl rfl, fun U hU hW => ⟨rfl, pw_at hZ va_S.rf hP hK hU hW (Or.inr rfl) [0, 1, 2, 3, 4] rfl⟩⟩ rfl rfl hl.1 rfl (lv_room (Nat.le_of_ble_eq_true rfl)) dX5_isCalled_26 ⟨Nat.zero_le _, Nat.zero_le _⟩) ?_
      refine lv_aload_n hx hb dX5_isCalled_29 rfl (lv_at hl 0 rfl) ?_
      refine lv_iload_n hx hb dX5_isCalled_30 rfl (lv_at hl 1 rfl) ?_
      refine lv_bipush (v := 12) hx hb dX5_isCalled_31 (by decide) ?_
      obtain ⟨v6, hv6, hf⟩ := ob hf
      refine cSi (W.runV (As := [.int a0, .int 12]) (rest := [.int v5]) ⟨hx, hb, hml, hown, hts⟩ (m_X5_own l D cI cJ cO hm mh mo my mp M mc mhol mof mdy mpd a0 12 v6 hv6) (cwV 2 hts gX5_isCalled_X5_own rfl rfl rfl (by decide +kernel) ⟨Nat.le_of_ble_eq_true rfl, Nat.le_of_ble_eq_true rfl⟩) ⟨pw_blind, va_recv hK hP (ci := 4) (q0 := 0) rfl rfl, fun U hU hW => ⟨rfl, pw_at hZ va_S.rf hP hK hU hW (Or.inr rfl) [0, 1, 2, 3, 4] rfl⟩⟩ rfl rfl hl.1 rfl (lv_room (Nat.le_of_ble_eq_true rfl)) dX5_isCalled_33 ⟨Nat.zero_le _, Nat.zero_le _⟩) ?_
      refine lv_icmp_lt (tgt := 43) hx hb dX5_isCalled_36 (by decide) (fun c7 => ?_) (fun c7 => ?_)
      · have hf := it hf c7
        refine lv_iconst (v := 0) hx hb dX5_isCalled_43 (by decide) ?_
        exact W.zret hx hb hr (zn (Or.inl rfl)) (fun t ht _ => ⟨_, rfl, ⟨Option.some.inj hf, (Or.inl rfl)⟩, ht⟩) (fun q hq => absurd hq List.not_mem_nil) dX5_isCalled_44
      · have hf := ie hf c7
        refine lv_iconst (v := 1) hx hb dX5_isCalled_39 (by decide) ?_
        refine lv_goto (tgt := 44) hx hb dX5_isCalled_40 (by decide) ?_
        exact W.zret hx hb hr (zn (Or.inr rfl)) (fun t ht _ => ⟨_, rfl, ⟨Option.some.inj hf, (Or.inr rfl)⟩, ht⟩) (fun q hq => absurd hq List.not_mem_nil) dX5_isCalled_44
def f_X5_leftBehind_L16 (a1 : Int32) (mof : Nat → Int32) (mdy : Nat → Int32) (a0 : Int32)  : Nat → Int32 → Int32 → Option Int32
  | 0, _, _ => none
  | n5 + 1, x3, x4 => (if a1 < x4 then some x3 else (f_X5_isSunk mof mdy a0 x4).bind fun v7 : Int32 => (if v7 = 0 then bd (x4 + 1) fun x9 : Int32 => f_X5_leftBehind_L16 a1 mof mdy a0 n5 x3 x9 else (f_X5_own mof a0 11).bind fun v10 : Int32 => bd (if 0 < (x3 - v10) then (x3 - v10) else 0 : Int32) fun x11 : Int32 => bd (x4 + 1) fun x12 : Int32 => f_X5_leftBehind_L16 a1 mof mdy a0 n5 x11 x12))
def f_X5_leftBehind (N : Nat) (mof : Nat → Int32) (mdy : Nat → Int32) (a0 : Int32) (a1 : Int32) : Option Int32 :=
  (f_X5_own mof a0 5).bind fun v1 : Int32 => (f_X5_own mof a0 7).bind fun v2 : Int32 => f_X5_leftBehind_L16 a1 mof mdy a0 N v1 v2
set_option maxHeartbeats 4000000 in
set_option maxRecDepth 100000 in
theorem m_X5_leftBehind (l : Launch) (D : va_G) (cI cJ cO : ClassId) (hm mh mo my mp : Nat) (M : Nat → Int32) (mc : Int64) (mhol mof mdy : Nat → Int32) (mpd : Nat → Int64) (a0 : Int32) (a1 : Int32) (N : Nat) (r : Int32) (hf : f_X5_leftBehind N mof mdy a0 a1 = some r) : Met l yX5_leftBehind wsX5_leftBehind ({ frames := 2, cells := 0, slots := 0, locals := 44 }) (va_Pc [.ref hm, .int a0, .int a1] (pw D (ty3 cI cJ cO) none [eM hm mh mo my mp M mc, eH cI mh mhol, eO cI mo mof, eY cI my mdy, eP cJ mp mpd])) (QSi r) 0 0 (fun _ => False) := by
  refine Met.ofW (cc := cX5_leftBehind) (maxL := 5) (ret := (some .int)) (by decide) rfl ?_
  intro p e s m args below meth c s₁ Bd hml hv
  obtain ⟨rfl, hZ, hP, hK⟩ := hv
  have hx := Bd.exec
  have hb := Bd.bytes
  have hr := Bd.returns
  have hts := atoms_spec (ws := wsX5_leftBehind) Bd.pre
  have hown : s.vm.findClass RX5 = some m.cls := findClass_of_methodNamed Bd.named
  have hlocks := Bd.notSynchronized
  have hl := lv_entry ([.ref hm, .int a0, .int a1]) (n := 5) (Nat.le_of_ble_eq_true rfl)
  rw [lg_entry_eq]
  generalize (lg_sl ([.ref hm, .int a0, .int a1]) ++ List.replicate (5 - (lg_sl ([.ref hm, .int a0, .int a1])).length) Slot.unset).toArray = ls at hl ⊢
  have hl : lv_has ls 5 [(0, .ref hm), (1, .int a0), (2, .int a1)] := hl
  unfold f_X5_leftBehind at hf
  refine lv_aload_n hx hb dX5_leftBehind_0 rfl (lv_at hl 0 rfl) ?_
  refine lv_iload_n hx hb dX5_leftBehind_1 rfl (lv_at hl 1 rfl) ?_
  refine lv_iconst (v := 5) hx hb dX5_leftBehind_2 (by decide) ?_
  obtain ⟨v1, hv1, hf⟩ := ob hf
  refine cSi (W.runV (As := [.int a0, .int 5]) (rest := []) ⟨hx, hb, hml, hown, hts⟩ (m_X5_own l D cI cJ cO hm mh mo my mp M mc mhol mof mdy mpd a0 5 v1 hv1) (cwV 2 hts gX5_leftBehind_X5_own rfl rfl rfl (by decide +kernel) ⟨Nat.le_of_ble_eq_true rfl, Nat.le_of_ble_eq_true rfl⟩) ⟨pw_blind, va_recv hK hP (ci := 4) (q0 := 0) rfl rfl, fun U hU hW => ⟨rfl, pw_at hZ va_S.rf hP hK hU hW (Or.inr rfl) [0, 1, 2, 3, 4] rfl⟩⟩ rfl rfl hl.1 rfl (lv_room (Nat.le_of_ble_eq_true rfl)) dX5_leftBehind_3 ⟨Nat.zero_le _, Nat.zero_le _⟩) ?_
  refine lv_istore_n (lv' := [(3, .int v1), (0, .ref hm), (1, .int a0), (2, .int a1)]) hx hb dX5_leftBehind_6 rfl hl (by decide) rfl (fun ls hl => ?_)
  refine lv_aload_n hx hb dX5_leftBehind_7 rfl (lv_at hl 1 rfl) ?_
  refine lv_iload_n hx hb dX5_leftBehind_8 rfl (lv_at hl 2 rfl) ?_
  refine lv_bipush (v := 7) hx hb dX5_leftBehind_9 (by decide) ?_
  obtain ⟨v2, hv2, hf⟩ := ob hf
  refine cSi (W.runV (As := [.int a0, .int 7]) (rest := []) ⟨hx, hb, hml, hown, hts⟩ (m_X5_own l D cI cJ cO hm mh mo my mp M mc mhol mof mdy mpd a0 7 v2 hv2) (cwV 2 hts gX5_leftBehind_X5_own rfl rfl rfl (by decide +kernel) ⟨Nat.le_of_ble_eq_true rfl, Nat.le_of_ble_eq_true rfl⟩) ⟨pw_blind, va_recv hK hP (ci := 4) (q0 := 0) rfl rfl, fun U hU hW => ⟨rfl, pw_at hZ va_S.rf hP hK hU hW (Or.inr rfl) [0, 1, 2, 3, 4] rfl⟩⟩ rfl rfl hl.1 rfl (lv_room (Nat.le_of_ble_eq_true rfl)) dX5_leftBehind_11 ⟨Nat.zero_le _, Nat.zero_le _⟩) ?_
  refine lv_istore (lv' := [(4, .int v2), (3, .int v1), (0, .ref hm), (1, .int a0), (2, .int a1)]) hx hb dX5_leftBehind_14 hl (by decide) rfl (fun ls hl => ?_)
  have LP16 : ∀ (n5 : Nat) (x3 : Int32) (x4 : Int32) (ls : Array Slot), lv_has ls 5 [(0, .ref hm), (1, .int a0), (2, .int a1), (3, .int x3), (4, .int x4)] → f_X5_leftBehind_L16 a1 mof mdy a0 n5 x3 x4 = some r → W p l e (headSpec wsX5_leftBehind ({ frames := 2, cells := 0, slots := 0, locals := 44 })).room s m ([.ref hm, .int a0, .int a1] : List Value).toArray below meth c s.heap [] 0 0 (MQ below (QSi r) ([.ref hm, .int a0, .int a1] : List Value).toArray s 0 0 (fun _ => False)) (F0 m 16 ls []) := by
    intro n5
    induction n5 with
    | zero => intro x3 x4 ls hl hf; exact (no_s hf).elim
    | succ n5 ih5 =>
      intro x3 x4 ls hl hf
      rw [f_X5_leftBehind_L16] at hf
      refine lv_iload hx hb dX5_leftBehind_16 (lv_at hl 4 rfl) ?_
      refine lv_iload_n hx hb dX5_leftBehind_18 rfl (lv_at hl 2 rfl) ?_
      refine lv_icmp_gt (tgt := 52) hx hb dX5_leftBehind_19 (by decide) (fun c6 => ?_) (fun c6 => ?_)
      · have hf := it hf c6
        refine lv_iload_n hx hb dX5_leftBehind_52 rfl (lv_at hl 3 rfl) ?_
        exact W.iret hx hb hr (fun t ht _ => ⟨_, rfl, Option.some.inj hf, ht⟩) (fun q hq => absurd hq List.not_mem_nil) dX5_leftBehind_53
      · have hf := ie hf c6
        refine lv_aload_n hx hb dX5_leftBehind_22 rfl (lv_at hl 0 rfl) ?_
        refine lv_iload_n hx hb dX5_leftBehind_23 rfl (lv_at hl 1 rfl) ?_
        refine lv_iload hx hb dX5_leftBehind_24 (lv_at hl 4 rfl) ?_
        obtain ⟨v7, hv7, hf⟩ := ob hf
        refine cSz (W.runV (As := [.int a0, .int x4]) (rest := []) ⟨hx, hb, hml, hown, hts⟩ (m_X5_isSunk l D cI cJ cO hm mh mo my mp M mc mhol mof mdy mpd a0 x4 v7 hv7) (cwV 2 hts gX5_leftBehind_X5_isSunk rfl rfl rfl (by decide +kernel) ⟨Nat.le_of_ble_eq_true rfl, Nat.le_of_ble_eq_true rfl⟩) ⟨pw_blind, va_recv hK hP (ci := 4) (q0 := 0) rfl rfl, fun U hU hW => ⟨rfl, pw_at hZ va_S.rf hP hK hU hW (Or.inr rfl) [0, 1, 2, 3, 4] rfl⟩⟩ rfl rfl hl.1 rfl (lv_room (Nat.le_of_ble_eq_true rfl)) dX5_leftBehind_26 ⟨Nat.zero_le _, Nat.zero_le _⟩) (fun zv7 => ?_)
        refine lv_if_eq (tgt := 46) hx hb dX5_leftBehind_29 (by decide) (fun c8 => ?_) (fun c8 => ?_)
        · have hf := it hf c8
          obtain ⟨x9, ex9⟩ : ∃ y : Int32, y = x4 + 1 := ⟨_, rfl⟩
          have hf := bd_s hf ex9
          refine lv_iinc (v := x9) (lv' := [(4, .int x9), (0, .ref hm), (1, .int a0), (2, .int a1), (3, .int x3)]) hx hb dX5_leftBehind_46 hl (k := 4) rfl (by rw [ex9]; rfl) (by decide) rfl (fun ls hl => ?_)
          refine lv_goto (tgt := 16) hx hb dX5_leftBehind_49 (by decide) ?_
          exact ih5 x3 x9 ls (lv_sub hl [1, 2, 3, 4, 0] rfl) hf
        · have hf := ie hf c8
          refine lv_iconst (v := 0) hx hb dX5_leftBehind_32 (by decide) ?_
          refine lv_iload_n hx hb dX5_leftBehind_33 rfl (lv_at hl 3 rfl) ?_
          refine lv_aload_n hx hb dX5_leftBehind_34 rfl (lv_at hl 0 rfl) ?_
          refine lv_iload_n hx hb dX5_leftBehind_35 rfl (lv_at hl 1 rfl) ?_
          refine lv_bipush (v := 11) hx hb dX5_leftBehind_36 (by decide) ?_
          obtain ⟨v10, hv10, hf⟩ := ob hf
          refine cSi (W.runV (As := [.int a0, .int 11]) (rest := [.int x3, .int 0]) ⟨hx, hb, hml, hown, hts⟩ (m_X5_own l D cI cJ cO hm mh mo my mp M mc mhol mof mdy mpd a0 11 v10 hv10) (cwV 2 hts gX5_leftBehind_X5_own rfl rfl rfl (by decide +kernel) ⟨Nat.le_of_ble_eq_true rfl, Nat.le_of_ble_eq_true rfl⟩) ⟨pw_blind, va_recv hK hP (ci := 4) (q0 := 0) rfl rfl, fun U hU hW => ⟨rfl, pw_at hZ va_S.rf hP hK hU hW (Or.inr rfl) [0, 1, 2, 3, 4] rfl⟩⟩ rfl rfl hl.1 rfl (lv_room (Nat.le_of_ble_eq_true rfl)) dX5_leftBehind_38 ⟨Nat.zero_le _, Nat.zero_le _⟩) ?_
          refine lv_isub hx hb dX5_leftBehind_41 ?_
          refine va_mmax hx hb (hml.trans hl.1.symm) hown (hts (.methodLink RX5 104 Lib.Math.max.name) (by decide +kernel)) (hts (.static Lib.Math.max.name) (by decide +kernel)) (hts (.initialized "java/lang/Math") (by decide +kernel)) (hts (.code Lib.Math.max.name Lib.Math.max.code 2 (some .int)) (by decide +kernel)) (Nat.le_of_ble_eq_true rfl) (Nat.le_of_ble_eq_true rfl) (Nat.zero_le _) (Nat.zero_le _) dX5_leftBehind_42 ?_
          refine lv_topi (fun x11 ex11 => ?_)
          have hf := bd_s hf ex11
          refine lv_istore_n (lv' := [(3, .int x11), (0, .ref hm), (1, .int a0), (2, .int a1), (4, .int x4)]) hx hb dX5_leftBehind_45 rfl hl (by decide) rfl (fun ls hl => ?_)
          obtain ⟨x12, ex12⟩ : ∃ y : Int32, y = x4 + 1 := ⟨_, rfl⟩
          have hf := bd_s hf ex12
          refine lv_iinc (v := x12) (lv' := [(4, .int x12), (3, .int x11), (0, .ref hm), (1, .int a0), (2, .int a1)]) hx hb dX5_leftBehind_46 hl (k := 4) rfl (by rw [ex12]; rfl) (by decide) rfl (fun ls hl => ?_)
          refine lv_goto (tgt := 16) hx hb dX5_leftBehind_49 (by decide) ?_
          exact ih5 x11 x12 ls (lv_sub hl [2, 3, 4, 1, 0] rfl) hf
  exact LP16 N v1 v2 ls (lv_sub hl [2, 3, 4, 1, 0] rfl) hf
def f_X5_firstCall_L18 (mof : Nat → Int32) (a0 : Int32) (mdy : Nat → Int32)  : Nat → Int32 → Option Int32
  | 0, _ => none
  | n5 + 1, x4 => (f_X5_own mof a0 6).bind fun v6 : Int32 => (if v6 ≤ x4 then some ((-1)) else (f_X5_isCalled mof mdy a0 x4).bind fun v8 : Int32 => (if v8 = 0 then bd (x4 + 1) fun x10 : Int32 => f_X5_firstCall_L18 mof a0 mdy n5 x10 else some x4))
def f_X5_firstCall (N : Nat) (mof : Nat → Int32) (mdy : Nat → Int32) (a0 : Int32) : Option Int32 :=
  (f_X5_isThere mof a0).bind fun v1 : Int32 => (if v1 = 0 then some ((-1)) else (f_X5_own mof a0 7).bind fun v3 : Int32 => f_X5_firstCall_L18 mof a0 mdy N v3)
set_option maxHeartbeats 4000000 in
set_option maxRecDepth 100000 in
theorem m_X5_firstCall (l : Launch) (D : va_G) (cI cJ cO : ClassId) (hm mh mo my mp : Nat) (M : Nat → Int32) (mc : Int64) (mhol mof mdy : Nat → Int32) (mpd : Nat → Int64) (a0 : Int32) (N : Nat) (r : Int32) (hf : f_X5_firstCall N mof mdy a0 = some r) : Met l yX5_firstCall wsX5_firstCall ({ frames := 2, cells := 0, slots := 0, locals := 44 }) (va_Pc [.ref hm, .int a0] (pw D (ty3 cI cJ cO) none [eM hm mh mo my mp M mc, eH cI mh mhol, eO cI mo mof, eY cI my mdy, eP cJ mp mpd])) (QSi r) 0 0 (fun _ => False) := by
  refine Met.ofW (cc := cX5_firstCall) (maxL := 3) (ret := (some .int)) (by decide) rfl ?_
  intro p e s m args below meth c s₁ Bd hml hv
  obtain ⟨rfl, hZ, hP, hK⟩ := hv
  have hx := Bd.exec
  have hb := Bd.bytes
  have hr := Bd.returns
  have hts := atoms_spec (ws := wsX5_firstCall) Bd.pre
  have hown : s.vm.findClass RX5 = some m.cls := findClass_of_methodNamed Bd.named
  have hlocks := Bd.notSynchronized
  have hl := lv_entry ([.ref hm, .int a0]) (n := 3) (Nat.le_of_ble_eq_true rfl)
  rw [lg_entry_eq]
  generalize (lg_sl ([.ref hm, .int a0]) ++ List.replicate (3 - (lg_sl ([.ref hm, .int a0])).length) Slot.unset).toArray = ls at hl ⊢
  have hl : lv_has ls 3 [(0, .ref hm), (1, .int a0)] := hl
  unfold f_X5_firstCall at hf
  refine lv_aload_n hx hb dX5_firstCall_0 rfl (lv_at hl 0 rfl) ?_
  refine lv_iload_n hx hb dX5_firstCall_1 rfl (lv_at hl 1 rfl) ?_
  obtain ⟨v1, hv1, hf⟩ := ob hf
  refine cSz (W.runV (As := [.int a0]) (rest := []) ⟨hx, hb, hml, hown, hts⟩ (m_X5_isThere l D cI cJ cO hm mh mo my mp M mc mhol mof mdy mpd a0 v1 hv1) (cwV 1 hts gX5_firstCall_X5_isThere rfl rfl rfl (by decide +kernel) ⟨Nat.le_of_ble_eq_true rfl, Nat.le_of_ble_eq_true rfl⟩) ⟨pw_blind, va_recv hK hP (ci := 4) (q0 := 0) rfl rfl, fun U hU hW => ⟨rfl, pw_at hZ va_S.rf hP hK hU hW (Or.inr rfl) [0, 1, 2, 3, 4] rfl⟩⟩ rfl rfl hl.1 rfl (lv_room (Nat.le_of_ble_eq_true rfl)) dX5_firstCall_2 ⟨Nat.zero_le _, Nat.zero_le _⟩) (fun zv1 => ?_)
  refine lv_if_ne (tgt := 10) hx hb dX5_firstCall_5 (by decide) (fun c2 => ?_) (fun c2 => ?_)
  · have hf := ie hf c2
    refine lv_aload_n hx hb dX5_firstCall_10 rfl (lv_at hl 0 rfl) ?_
    refine lv_iload_n hx hb dX5_firstCall_11 rfl (lv_at hl 1 rfl) ?_
    refine lv_bipush (v := 7) hx hb dX5_firstCall_12 (by decide) ?_
    obtain ⟨v3, hv3, hf⟩ := ob hf
    refine cSi (W.runV (As := [.int a0, .int 7]) (rest := []) ⟨hx, hb, hml, hown, hts⟩ (m_X5_own l D cI cJ cO hm mh mo my mp M mc mhol mof mdy mpd a0 7 v3 hv3) (cwV 2 hts gX5_firstCall_X5_own rfl rfl rfl (by decide +kernel) ⟨Nat.le_of_ble_eq_true rfl, Nat.le_of_ble_eq_true rfl⟩) ⟨pw_blind, va_recv hK hP (ci := 4) (q0 := 0) rfl rfl, fun U hU hW => ⟨rfl, pw_at hZ va_S.rf hP hK hU hW (Or.inr rfl) [0, 1, 2, 3, 4] rfl⟩⟩ rfl rfl hl.1 rfl (lv_room (Nat.le_of_ble_eq_true rfl)) dX5_firstCall_14 ⟨Nat.zero_le _, Nat.zero_le _⟩) ?_
    refine lv_istore_n (lv' := [(2, .int v3), (0, .ref hm), (1, .int a0)]) hx hb dX5_firstCall_17 rfl hl (by decide) rfl (fun ls hl => ?_)
    have LP18 : ∀ (n5 : Nat) (x4 : Int32) (ls : Array Slot), lv_has ls 3 [(0, .ref hm), (1, .int a0), (2, .int x4)] → f_X5_firstCall_L18 mof a0 mdy n5 x4 = some r → W p l e (headSpec wsX5_firstCall ({ frames := 2, cells := 0, slots := 0, locals := 44 })).room s m ([.ref hm, .int a0] : List Value).toArray below meth c s.heap [] 0 0 (MQ below (QSi r) ([.ref hm, .int a0] : List Value).toArray s 0 0 (fun _ => False)) (F0 m 18 ls []) := by
      intro n5
      induction n5 with
      | zero => intro x4 ls hl hf; exact (no_s hf).elim
      | succ n5 ih5 =>
        intro x4 ls hl hf
        rw [f_X5_firstCall_L18] at hf
        refine lv_iload_n hx hb dX5_firstCall_18 rfl (lv_at hl 2 rfl) ?_
        refine lv_aload_n hx hb dX5_firstCall_19 rfl (lv_at hl 0 rfl) ?_
        refine lv_iload_n hx hb dX5_firstCall_20 rfl (lv_at hl 1 rfl) ?_
        refine lv_bipush (v := 6) hx hb dX5_firstCall_21 (by decide) ?_
        obtain ⟨v6, hv6, hf⟩ := ob hf
        refine cSi (W.runV (As := [.int a0, .int 6]) (rest := [.int x4]) ⟨hx, hb, hml, hown, hts⟩ (m_X5_own l D cI cJ cO hm mh mo my mp M mc mhol mof mdy mpd a0 6 v6 hv6) (cwV 2 hts gX5_firstCall_X5_own rfl rfl rfl (by decide +kernel) ⟨Nat.le_of_ble_eq_true rfl, Nat.le_of_ble_eq_true rfl⟩) ⟨pw_blind, va_recv hK hP (ci := 4) (q0 := 0) rfl rfl, fun U hU hW => ⟨rfl, pw_at hZ va_S.rf hP hK hU hW (Or.inr rfl) [0, 1, 2, 3, 4] rfl⟩⟩ rfl rfl hl.1 rfl (lv_room (Nat.le_of_ble_eq_true rfl)) dX5_firstCall_23 ⟨Nat.zero_le _, Nat.zero_le _⟩) ?_
        refine lv_icmp_ge (tgt := 46) hx hb dX5_firstCall_26 (by decide) (fun c7 => ?_) (fun c7 => ?_)
        · have hf := it hf c7
          refine lv_iconst (v := (-1)) hx hb dX5_firstCall_46 (by decide) ?_
          exact W.iret hx hb hr (fun t ht _ => ⟨_, rfl, Option.some.inj hf, ht⟩) (fun q hq => absurd hq List.not_mem_nil) dX5_firstCall_47
        · have hf := ie hf c7
          refine lv_aload_n hx hb dX5_firstCall_29 rfl (lv_at hl 0 rfl) ?_
          refine lv_iload_n hx hb dX5_firstCall_30 rfl (lv_at hl 1 rfl) ?_
          refine lv_iload_n hx hb dX5_firstCall_31 rfl (lv_at hl 2 rfl) ?_
          obtain ⟨v8, hv8, hf⟩ := ob hf
          refine cSz (W.runV (As := [.int a0, .int x4]) (rest := []) ⟨hx, hb, hml, hown, hts⟩ (m_X5_isCalled l D cI cJ cO hm mh mo my mp M mc mhol mof mdy mpd a0 x4 v8 hv8) (cwV 2 hts gX5_firstCall_X5_isCalled rfl rfl rfl (by decide +kernel) ⟨Nat.le_of_ble_eq_true rfl, Nat.le_of_ble_eq_true rfl⟩) ⟨pw_blind, va_recv hK hP (ci := 4) (q0 := 0) rfl rfl, fun U hU hW => ⟨rfl, pw_at hZ va_S.rf hP hK hU hW (Or.inr rfl) [0, 1, 2, 3, 4] rfl⟩⟩ rfl rfl hl.1 rfl (lv_room (Nat.le_of_ble_eq_true rfl)) dX5_firstCall_32 ⟨Nat.zero_le _, Nat.zero_le _⟩) (fun zv8 => ?_)
          refine lv_if_eq (tgt := 40) hx hb dX5_firstCall_35 (by decide) (fun c9 => ?_) (fun c9 => ?_)
          · have hf := it hf c9
            obtain ⟨x10, ex10⟩ : ∃ y : Int32, y = x4 + 1 := ⟨_, rfl⟩
            have hf := bd_s hf ex10
            refine lv_iinc (v := x10) (lv' := [(2, .int x10), (0, .ref hm), (1, .int a0)]) hx hb dX5_firstCall_40 hl (k := 2) rfl (by rw [ex10]; rfl) (by decide) rfl (fun ls hl => ?_)
            refine lv_goto (tgt := 18) hx hb dX5_firstCall_43 (by decide) ?_
            exact ih5 x10 ls (lv_sub hl [1, 2, 0] rfl) hf
          · have hf := ie hf c9
            refine lv_iload_n hx hb dX5_firstCall_38 rfl (lv_at hl 2 rfl) ?_
            exact W.iret hx hb hr (fun t ht _ => ⟨_, rfl, Option.some.inj hf, ht⟩) (fun q hq => absurd hq List.not_mem_nil) dX5_firstCall_39
    exact LP18 N v3 ls (lv_sub hl [1, 2, 0] rfl) hf
  · have hf := it hf c2
    refine lv_iconst (v := (-1)) hx hb dX5_firstCall_8 (by decide) ?_
    exact W.iret hx hb hr (fun t ht _ => ⟨_, rfl, Option.some.inj hf, ht⟩) (fun q hq => absurd hq List.not_mem_nil) dX5_firstCall_9
def f_X5_told (N : Nat) (mof : Nat → Int32) (a0 : Int32) (a1 : Int32) : Option Int32 :=
  (if a1 = 0 then (f_X5_own mof a0 0).bind fun v2 : Int32 => (f_X5_date N v2).bind fun v3 : Int32 => some v3 else (if a1 = 1 then (f_X5_own mof a0 1).bind fun v5 : Int32 => (f_X5_date N v5).bind fun v6 : Int32 => some v6 else (if a1 = 6 then (f_X5_own mof a0 5).bind fun v8 : Int32 => some (10 * v8) else (if a1 = 7 then (f_X5_own mof a0 6).bind fun v10 : Int32 => some v10 else (if a1 = 8 then (f_X5_isThere mof a0).bind fun v12 : Int32 => (if v12 = 0 then some ((-1)) else (f_X5_own mof a0 7).bind fun v14 : Int32 => some v14) else (if a1 = 9 then (f_X5_own mof a0 8).bind fun v16 : Int32 => some v16 else (if a1 = 10 then (f_X5_own mof a0 9).bind fun v18 : Int32 => some v18 else (f_X5_own mof a0 a1).bind fun v19 : Int32 => some v19)))))))
set_option maxHeartbeats 4000000 in
set_option maxRecDepth 100000 in
theorem m_X5_told (l : Launch) (D : va_G) (cI cJ cO : ClassId) (hm mh mo my mp : Nat) (M : Nat → Int32) (mc : Int64) (mhol mof mdy : Nat → Int32) (mpd : Nat → Int64) (a0 : Int32) (a1 : Int32) (N : Nat) (r : Int32) (hf : f_X5_told N mof a0 a1 = some r) : Met l yX5_told wsX5_told ({ frames := 2, cells := 0, slots := 0, locals := 44 }) (va_Pc [.ref hm, .int a0, .int a1] (pw D (ty3 cI cJ cO) none [eM hm mh mo my mp M mc, eH cI mh mhol, eO cI mo mof, eY cI my mdy, eP cJ mp mpd])) (QSi r) 0 0 (fun _ => False) := by
  refine Met.ofW (cc := cX5_told) (maxL := 3) (ret := (some .int)) (by decide) rfl ?_
  intro p e s m args below meth c s₁ Bd hml hv
  obtain ⟨rfl, hZ, hP, hK⟩ := hv
  have hx := Bd.exec
  have hb := Bd.bytes
  have hr := Bd.returns
  have hts := atoms_spec (ws := wsX5_told) Bd.pre
  have hown : s.vm.findClass RX5 = some m.cls := findClass_of_methodNamed Bd.named
  have hlocks := Bd.notSynchronized
  have hl := lv_entry ([.ref hm, .int a0, .int a1]) (n := 3) (Nat.le_of_ble_eq_true rfl)
  rw [lg_entry_eq]
  generalize (lg_sl ([.ref hm, .int a0, .int a1]) ++ List.replicate (3 - (lg_sl ([.ref hm, .int a0, .int a1])).length) Slot.unset).toArray = ls at hl ⊢
  have hl : lv_has ls 3 [(0, .ref hm), (1, .int a0), (2, .int a1)] := hl
  unfold f_X5_told at hf
  refine lv_iload_n hx hb dX5_told_0 rfl (lv_at hl 2 rfl) ?_
  by_cases c1 : a1 = 0
  · have hf := it hf c1
    refine lv_tableIn (off := 59) (tgt := 60) hx hb dX5_told_1 (by rw [c1]; decide) (by rw [c1]; decide) (by rw [c1]; rfl) (by decide) ?_
    refine lv_aload_n hx hb dX5_told_60 rfl (lv_at hl 0 rfl) ?_
    refine lv_iload_n hx hb dX5_told_61 rfl (lv_at hl 1 rfl) ?_
    refine lv_iconst (v := 0) hx hb dX5_told_62 (by decide) ?_
    obtain ⟨v2, hv2, hf⟩ := ob hf
    refine cSi (W.runV (As := [.int a0, .int 0]) (rest := []) ⟨hx, hb, hml, hown, hts⟩ (m_X5_own l D cI cJ cO hm mh mo my mp M mc mhol mof mdy mpd a0 0 v2 hv2) (cwV 2 hts gX5_told_X5_own rfl rfl rfl (by decide +kernel) ⟨Nat.le_of_ble_eq_true rfl, Nat.le_of_ble_eq_true rfl⟩) ⟨pw_blind, va_recv hK hP (ci := 4) (q0 := 0) rfl rfl, fun U hU hW => ⟨rfl, pw_at hZ va_S.rf hP hK hU hW (Or.inr rfl) [0, 1, 2, 3, 4] rfl⟩⟩ rfl rfl hl.1 rfl (lv_room (Nat.le_of_ble_eq_true rfl)) dX5_told_63 ⟨Nat.zero_le _, Nat.zero_le _⟩) ?_
    obtain ⟨v3, hv3, hf⟩ := ob hf
    refine cSi (W.runS (As := [.int v2]) (rest := []) ⟨hx, hb, hml, hown, hts⟩ (m_X5_date l D cI cJ cO v2 N v3 hv3) (va_cwS 1 hts gX5_told_X5_date rfl rfl rfl (by decide +kernel) ⟨Nat.le_of_ble_eq_true rfl, Nat.le_of_ble_eq_true rfl⟩) ⟨pw_blind, fun U hU hW => ⟨rfl, pw_at hZ va_S.rf hP hK hU hW (Or.inr rfl) [] rfl⟩⟩ rfl rfl hl.1 rfl (lv_room (Nat.le_of_ble_eq_true rfl)) dX5_told_66 ⟨Nat.zero_le _, Nat.zero_le _⟩) ?_
    exact W.iret hx hb hr (fun t ht _ => ⟨_, rfl, Option.some.inj hf, ht⟩) (fun q hq => absurd hq List.not_mem_nil) dX5_told_69
  have hf := ie hf c1
  by_cases c4 : a1 = 1
  · have hf := it hf c4
    refine lv_tableIn (off := 69) (tgt := 70) hx hb dX5_told_1 (by rw [c4]; decide) (by rw [c4]; decide) (by rw [c4]; rfl) (by decide) ?_
    refine lv_aload_n hx hb dX5_told_70 rfl (lv_at hl 0 rfl) ?_
    refine lv_iload_n hx hb dX5_told_71 rfl (lv_at hl 1 rfl) ?_
    refine lv_iconst (v := 1) hx hb dX5_told_72 (by decide) ?_
    obtain ⟨v5, hv5, hf⟩ := ob hf
    refine cSi (W.runV (As := [.int a0, .int 1]) (rest := []) ⟨hx, hb, hml, hown, hts⟩ (m_X5_own l D cI cJ cO hm mh mo my mp M mc mhol mof mdy mpd a0 1 v5 hv5) (cwV 2 hts gX5_told_X5_own rfl rfl rfl (by decide +kernel) ⟨Nat.le_of_ble_eq_true rfl, Nat.le_of_ble_eq_true rfl⟩) ⟨pw_blind, va_recv hK hP (ci := 4) (q0 := 0) rfl rfl, fun U hU hW => ⟨rfl, pw_at hZ va_S.rf hP hK hU hW (Or.inr rfl) [0, 1, 2, 3, 4] rfl⟩⟩ rfl rfl hl.1 rfl (lv_room (Nat.le_of_ble_eq_true rfl)) dX5_told_73 ⟨Nat.zero_le _, Nat.zero_le _⟩) ?_
    obtain ⟨v6, hv6, hf⟩ := ob hf
    refine cSi (W.runS (As := [.int v5]) (rest := []) ⟨hx, hb, hml, hown, hts⟩ (m_X5_date l D cI cJ cO v5 N v6 hv6) (va_cwS 1 hts gX5_told_X5_date rfl rfl rfl (by decide +kernel) ⟨Nat.le_of_ble_eq_true rfl, Nat.le_of_ble_eq_true rfl⟩) ⟨pw_blind, fun U hU hW => ⟨rfl, pw_at hZ va_S.rf hP hK hU hW (Or.inr rfl) [] rfl⟩⟩ rfl rfl hl.1 rfl (lv_room (Nat.le_of_ble_eq_true rfl)) dX5_told_76 ⟨Nat.zero_le _, Nat.zero_le _⟩) ?_
    exact W.iret hx hb hr (fun t ht _ => ⟨_, rfl, Option.some.inj hf, ht⟩) (fun q hq => absurd hq List.not_mem_nil) dX5_told_79
  have hf := ie hf c4
  by_cases c7 : a1 = 6
  · have hf := it hf c7
    refine lv_tableIn (off := 79) (tgt := 80) hx hb dX5_told_1 (by rw [c7]; decide) (by rw [c7]; decide) (by rw [c7]; rfl) (by decide) ?_
    refine lv_bipush (v := 10) hx hb dX5_told_80 (by decide) ?_
    refine lv_aload_n hx hb dX5_told_82 rfl (lv_at hl 0 rfl) ?_
    refine lv_iload_n hx hb dX5_told_83 rfl (lv_at hl 1 rfl) ?_
    refine lv_iconst (v := 5) hx hb dX5_told_84 (by decide) ?_
    obtain ⟨v8, hv8, hf⟩ := ob hf
    refine cSi (W.runV (As := [.int a0, .int 5]) (rest := [.int 10]) ⟨hx, hb, hml, hown, hts⟩ (m_X5_own l D cI cJ cO hm mh mo my mp M mc mhol mof mdy mpd a0 5 v8 hv8) (cwV 2 hts gX5_told_X5_own rfl rfl rfl (by decide +kernel) ⟨Nat.le_of_ble_eq_true rfl, Nat.le_of_ble_eq_true rfl⟩) ⟨pw_blind, va_recv hK hP (ci := 4) (q0 := 0) rfl rfl, fun U hU hW => ⟨rfl, pw_at hZ va_S.rf hP hK hU hW (Or.inr rfl) [0, 1, 2, 3, 4] rfl⟩⟩ rfl rfl hl.1 rfl (lv_room (Nat.le_of_ble_eq_true rfl)) dX5_told_85 ⟨Nat.zero_le _, Nat.zero_le _⟩) ?_
    refine lv_imul hx hb dX5_told_88 ?_
    exact W.iret hx hb hr (fun t ht _ => ⟨_, rfl, Option.some.inj hf, ht⟩) (fun q hq => absurd hq List.not_mem_nil) dX5_told_89
  have hf := ie hf c7
  by_cases c9 : a1 = 7
  · have hf := it hf c9
    refine lv_tableIn (off := 89) (tgt := 90) hx hb dX5_told_1 (by rw [c9]; decide) (by rw [c9]; decide) (by rw [c9]; rfl) (by decide) ?_
    refine lv_aload_n hx hb dX5_told_90 rfl (lv_at hl 0 rfl) ?_
    refine lv_iload_n hx hb dX5_told_91 rfl (lv_at hl 1 rfl) ?_
    refine lv_bipush (v := 6) hx hb dX5_told_92 (by decide) ?_
    obtain ⟨v10, hv10, hf⟩ := ob hf
    refine cSi (W.runV (As := [.int a0, .int 6]) (rest := []) ⟨hx, hb, hml, hown, hts⟩ (m_X5_own l D cI cJ cO hm mh mo my mp M mc mhol mof mdy mpd a0 6 v10 hv10) (cwV 2 hts gX5_told_X5_own rfl rfl rfl (by decide +kernel) ⟨Nat.le_of_ble_eq_true rfl, Nat.le_of_ble_eq_true rfl⟩) ⟨pw_blind, va_recv hK hP (ci := 4) (q0 := 0) rfl rfl, fun U hU hW => ⟨rfl, pw_at hZ va_S.rf hP hK hU hW (Or.inr rfl) [0, 1, 2, 3, 4] rfl⟩⟩ rfl rfl hl.1 rfl (lv_room (Nat.le_of_ble_eq_true rfl)) dX5_told_94 ⟨Nat.zero_le _, Nat.zero_le _⟩) ?_
    exact W.iret hx hb hr (fun t ht _ => ⟨_, rfl, Option.some.inj hf, ht⟩) (fun q hq => absurd hq List.not_mem_nil) dX5_told_97
  have hf := ie hf c9
  by_cases c11 : a1 = 8
  · have hf := it hf c11
    refine lv_tableIn (off := 97) (tgt := 98) hx hb dX5_told_1 (by rw [c11]; decide) (by rw [c11]; decide) (by rw [c11]; rfl) (by decide) ?_
    refine lv_aload_n hx hb dX5_told_98 rfl (lv_at hl 0 rfl) ?_
    refine lv_iload_n hx hb dX5_told_99 rfl (lv_at hl 1 rfl) ?_
    obtain ⟨v12, hv12, hf⟩ := ob hf
    refine cSz (W.runV (As := [.int a0]) (rest := []) ⟨hx, hb, hml, hown, hts⟩ (m_X5_isThere l D cI cJ cO hm mh mo my mp M mc mhol mof mdy mpd a0 v12 hv12) (cwV 1 hts gX5_told_X5_isThere rfl rfl rfl (by decide +kernel) ⟨Nat.le_of_ble_eq_true rfl, Nat.le_of_ble_eq_true rfl⟩) ⟨pw_blind, va_recv hK hP (ci := 4) (q0 := 0) rfl rfl, fun U hU hW => ⟨rfl, pw_at hZ va_S.rf hP hK hU hW (Or.inr rfl) [0, 1, 2, 3, 4] rfl⟩⟩ rfl rfl hl.1 rfl (lv_room (Nat.le_of_ble_eq_true rfl)) dX5_told_100 ⟨Nat.zero_le _, Nat.zero_le _⟩) (fun zv12 => ?_)
    refine lv_if_eq (tgt := 116) hx hb dX5_told_103 (by decide) (fun c13 => ?_) (fun c13 => ?_)
    · have hf := it hf c13
      refine lv_iconst (v := (-1)) hx hb dX5_told_116 (by decide) ?_
      exact W.iret hx hb hr (fun t ht _ => ⟨_, rfl, Option.some.inj hf, ht⟩) (fun q hq => absurd hq List.not_mem_nil) dX5_told_117
    · have hf := ie hf c13
      refine lv_aload_n hx hb dX5_told_106 rfl (lv_at hl 0 rfl) ?_
      refine lv_iload_n hx hb dX5_told_107 rfl (lv_at hl 1 rfl) ?_
      refine lv_bipush (v := 7) hx hb dX5_told_108 (by decide) ?_
      obtain ⟨v14, hv14, hf⟩ := ob hf
      refine cSi (W.runV (As := [.int a0, .int 7]) (rest := []) ⟨hx, hb, hml, hown, hts⟩ (m_X5_own l D cI cJ cO hm mh mo my mp M mc mhol mof mdy mpd a0 7 v14 hv14) (cwV 2 hts gX5_told_X5_own rfl rfl rfl (by decide +kernel) ⟨Nat.le_of_ble_eq_true rfl, Nat.le_of_ble_eq_true rfl⟩) ⟨pw_blind, va_recv hK hP (ci := 4) (q0 := 0) rfl rfl, fun U hU hW => ⟨rfl, pw_at hZ va_S.rf hP hK hU hW (Or.inr rfl) [0, 1, 2, 3, 4] rfl⟩⟩ rfl rfl hl.1 rfl (lv_room (Nat.le_of_ble_eq_true rfl)) dX5_told_110 ⟨Nat.zero_le _, Nat.zero_le _⟩) ?_
      refine lv_goto (tgt := 117) hx hb dX5_told_113 (by decide) ?_
      exact W.iret hx hb hr (fun t ht _ => ⟨_, rfl, Option.some.inj hf, ht⟩) (fun q hq => absurd hq List.not_mem_nil) dX5_told_117
  have hf := ie hf c11
  by_cases c15 : a1 = 9
  · have hf := it hf c15
    refine lv_tableIn (off := 117) (tgt := 118) hx hb dX5_told_1 (by rw [c15]; decide) (by rw [c15]; decide) (by rw [c15]; rfl) (by decide) ?_
    refine lv_aload_n hx hb dX5_told_118 rfl (lv_at hl 0 rfl) ?_
    refine lv_iload_n hx hb dX5_told_119 rfl (lv_at hl 1 rfl) ?_
    refine lv_bipush (v := 8) hx hb dX5_told_120 (by decide) ?_
    obtain ⟨v16, hv16, hf⟩ := ob hf
    refine cSi (W.runV (As := [.int a0, .int 8]) (rest := []) ⟨hx, hb, hml, hown, hts⟩ (m_X5_own l D cI cJ cO hm mh mo my mp M mc mhol mof mdy mpd a0 8 v16 hv16) (cwV 2 hts gX5_told_X5_own rfl rfl rfl (by decide +kernel) ⟨Nat.le_of_ble_eq_true rfl, Nat.le_of_ble_eq_true rfl⟩) ⟨pw_blind, va_recv hK hP (ci := 4) (q0 := 0) rfl rfl, fun U hU hW => ⟨rfl, pw_at hZ va_S.rf hP hK hU hW (Or.inr rfl) [0, 1, 2, 3, 4] rfl⟩⟩ rfl rfl hl.1 rfl (lv_room (Nat.le_of_ble_eq_true rfl)) dX5_told_122 ⟨Nat.zero_le _, Nat.zero_le _⟩) ?_
    exact W.iret hx hb hr (fun t ht _ => ⟨_, rfl, Option.some.inj hf, ht⟩) (fun q hq => absurd hq List.not_mem_nil) dX5_told_125
  have hf := ie hf c15
  by_cases c17 : a1 = 10
  · have hf := it hf c17
    refine lv_tableIn (off := 125) (tgt := 126) hx hb dX5_told_1 (by rw [c17]; decide) (by rw [c17]; decide) (by rw [c17]; rfl) (by decide) ?_
    refine lv_aload_n hx hb dX5_told_126 rfl (lv_at hl 0 rfl) ?_
    refine lv_iload_n hx hb dX5_told_127 rfl (lv_at hl 1 rfl) ?_
    refine lv_bipush (v := 9) hx hb dX5_told_128 (by decide) ?_
    obtain ⟨v18, hv18, hf⟩ := ob hf
    refine cSi (W.runV (As := [.int a0, .int 9]) (rest := []) ⟨hx, hb, hml, hown, hts⟩ (m_X5_own l D cI cJ cO hm mh mo my mp M mc mhol mof mdy mpd a0 9 v18 hv18) (cwV 2 hts gX5_told_X5_own rfl rfl rfl (by decide +kernel) ⟨Nat.le_of_ble_eq_true rfl, Nat.le_of_ble_eq_true rfl⟩) ⟨pw_blind, va_recv hK hP (ci := 4) (q0 := 0) rfl rfl, fun U hU hW => ⟨rfl, pw_at hZ va_S.rf hP hK hU hW (Or.inr rfl) [0, 1, 2, 3, 4] rfl⟩⟩ rfl rfl hl.1 rfl (lv_room (Nat.le_of_ble_eq_true rfl)) dX5_told_130 ⟨Nat.zero_le _, Nat.zero_le _⟩) ?_
    exact W.iret hx hb hr (fun t ht _ => ⟨_, rfl, Option.some.inj hf, ht⟩) (fun q hq => absurd hq List.not_mem_nil) dX5_told_133
  have hf := ie hf c17
  have tc1 : ¬ a1.toInt = 0 := ne_ti c1
  have tc4 : ¬ a1.toInt = 1 := ne_ti c4
  have tc7 : ¬ a1.toInt = 6 := ne_ti c7
  have tc9 : ¬ a1.toInt = 7 := ne_ti c9
  have tc11 : ¬ a1.toInt = 8 := ne_ti c11
  have tc15 : ¬ a1.toInt = 9 := ne_ti c15
  have tc17 : ¬ a1.toInt = 10 := ne_ti c17
  refine lv_tableOut (tgt := 134) hx hb dX5_told_1 (by omega) (by decide) ?_
  refine lv_aload_n hx hb dX5_told_134 rfl (lv_at hl 0 rfl) ?_
  refine lv_iload_n hx hb dX5_told_135 rfl (lv_at hl 1 rfl) ?_
  refine lv_iload_n hx hb dX5_told_136 rfl (lv_at hl 2 rfl) ?_
  obtain ⟨v19, hv19, hf⟩ := ob hf
  refine cSi (W.runV (As := [.int a0, .int a1]) (rest := []) ⟨hx, hb, hml, hown, hts⟩ (m_X5_own l D cI cJ cO hm mh mo my mp M mc mhol mof mdy mpd a0 a1 v19 hv19) (cwV 2 hts gX5_told_X5_own rfl rfl rfl (by decide +kernel) ⟨Nat.le_of_ble_eq_true rfl, Nat.le_of_ble_eq_true rfl⟩) ⟨pw_blind, va_recv hK hP (ci := 4) (q0 := 0) rfl rfl, fun U hU hW => ⟨rfl, pw_at hZ va_S.rf hP hK hU hW (Or.inr rfl) [0, 1, 2, 3, 4] rfl⟩⟩ rfl rfl hl.1 rfl (lv_room (Nat.le_of_ble_eq_true rfl)) dX5_told_137 ⟨Nat.zero_le _, Nat.zero_le _⟩) ?_
  exact W.iret hx hb hr (fun t ht _ => ⟨_, rfl, Option.some.inj hf, ht⟩) (fun q hq => absurd hq List.not_mem_nil) dX5_told_140
def f_X5_thirty (a0 : Int32) (a1 : Int32) : Option Int32 :=
  bd (if (a0 - a0 / 100 * 100) < 30 then (a0 - a0 / 100 * 100) else 30 : Int32) fun x1 : Int32 => jn (fun (x3 : Int32) => some ((((360 * ((a1 / 10000) - (a0 / 10000))) + (30 * (((a1 / 100) - (a1 / 100) / 100 * 100) - ((a0 / 100) - (a0 / 100) / 100 * 100)))) + x3) - x1)) fun K2 => jn (fun (_ : Unit) => K2 (a1 - a1 / 100 * 100)) fun K4 => (if (a1 - a1 / 100 * 100) = 31 then (if x1 = 30 then K2 30 else K4 ()) else K4 ())
set_option maxHeartbeats 4000000 in
set_option maxRecDepth 100000 in
theorem m_X5_thirty (l : Launch) (D : va_G) (cI cJ cO : ClassId)  (a0 : Int32) (a1 : Int32) (r : Int32) (hf : f_X5_thirty a0 a1 = some r) : Met l yX5_thirty wsX5_thirty ({ frames := 1, cells := 0, slots := 0, locals := 13 }) (va_Pc [.int a0, .int a1] (pw D (ty3 cI cJ cO) none [])) (QSi r) 0 0 (fun _ => False) := by
  refine Met.ofW (cc := cX5_thirty) (maxL := 4) (ret := (some .int)) (by decide) rfl ?_
  intro p e s m args below meth c s₁ Bd hml hv
  obtain ⟨rfl, hZ, hP, hK⟩ := hv
  have hx := Bd.exec
  have hb := Bd.bytes
  have hr := Bd.returns
  have hts := atoms_spec (ws := wsX5_thirty) Bd.pre
  have hown : s.vm.findClass RX5 = some m.cls := findClass_of_methodNamed Bd.named
  have hlocks := Bd.notSynchronized
  have hl := lv_entry ([.int a0, .int a1]) (n := 4) (Nat.le_of_ble_eq_true rfl)
  rw [lg_entry_eq]
  generalize (lg_sl ([.int a0, .int a1]) ++ List.replicate (4 - (lg_sl ([.int a0, .int a1])).length) Slot.unset).toArray = ls at hl ⊢
  have hl : lv_has ls 4 [(0, .int a0), (1, .int a1)] := hl
  unfold f_X5_thirty at hf
  refine lv_bipush (v := 30) hx hb dX5_thirty_0 (by decide) ?_
  refine lv_iload_n hx hb dX5_thirty_2 rfl (lv_at hl 0 rfl) ?_
  refine lv_bipush (v := 100) hx hb dX5_thirty_3 (by decide) ?_
  refine lv_irem hx hb dX5_thirty_5 (by decide) ?_
  refine va_mmin hx hb (hml.trans hl.1.symm) hown (hts (.methodLink RX5 80 Lib.Math.min.name) (by decide +kernel)) (hts (.static Lib.Math.min.name) (by decide +kernel)) (hts (.initialized "java/lang/Math") (by decide +kernel)) (hts (.code Lib.Math.min.name Lib.Math.min.code 2 (some .int)) (by decide +kernel)) (Nat.le_of_ble_eq_true rfl) (Nat.le_of_ble_eq_true rfl) (Nat.zero_le _) (Nat.zero_le _) dX5_thirty_6 ?_
  refine lv_topi (fun x1 ex1 => ?_)
  have hf := bd_s hf ex1
  refine lv_istore_n (lv' := [(2, .int x1), (0, .int a0), (1, .int a1)]) hx hb dX5_thirty_9 rfl hl (by decide) rfl (fun ls hl => ?_)
  refine lv_iload_n hx hb dX5_thirty_10 rfl (lv_at hl 2 rfl) ?_
  refine lv_bipush (v := 100) hx hb dX5_thirty_11 (by decide) ?_
  refine lv_irem hx hb dX5_thirty_13 (by decide) ?_
  refine lv_bipush (v := 31) hx hb dX5_thirty_14 (by decide) ?_
  obtain ⟨K2, hK2, hf⟩ := jn_s hf
  have JK2 : ∀ (x3 : Int32) (ls : Array Slot), lv_has ls 4 [(0, .int a0), (1, .int a1), (2, .int x1)] → K2 x3 = some r → W p l e (headSpec wsX5_thirty ({ frames := 1, cells := 0, slots := 0, locals := 13 })).room s m ([.int a0, .int a1] : List Value).toArray below meth c s.heap [] 0 0 (MQ below (QSi r) ([.int a0, .int a1] : List Value).toArray s 0 0 (fun _ => False)) (F0 m 34 ls [.int x3]) := by
    intro x3 ls hl hf
    rw [hK2] at hf
    refine lv_istore_n (lv' := [(3, .int x3), (0, .int a0), (1, .int a1), (2, .int x1)]) hx hb dX5_thirty_34 rfl hl (by decide) rfl (fun ls hl => ?_)
    refine lv_sipush (v := 360) hx hb dX5_thirty_35 (by decide) ?_
    refine lv_iload_n hx hb dX5_thirty_38 rfl (lv_at hl 2 rfl) ?_
    refine lv_sipush (v := 10000) hx hb dX5_thirty_39 (by decide) ?_
    refine lv_idiv hx hb dX5_thirty_42 (by decide) ?_
    refine lv_iload_n hx hb dX5_thirty_43 rfl (lv_at hl 1 rfl) ?_
    refine lv_sipush (v := 10000) hx hb dX5_thirty_44 (by decide) ?_
    refine lv_idiv hx hb dX5_thirty_47 (by decide) ?_
    refine lv_isub hx hb dX5_thirty_48 ?_
    refine lv_imul hx hb dX5_thirty_49 ?_
    refine lv_bipush (v := 30) hx hb dX5_thirty_50 (by decide) ?_
    refine lv_iload_n hx hb dX5_thirty_52 rfl (lv_at hl 2 rfl) ?_
    refine lv_bipush (v := 100) hx hb dX5_thirty_53 (by decide) ?_
    refine lv_idiv hx hb dX5_thirty_55 (by decide) ?_
    refine lv_bipush (v := 100) hx hb dX5_thirty_56 (by decide) ?_
    refine lv_irem hx hb dX5_thirty_58 (by decide) ?_
    refine lv_iload_n hx hb dX5_thirty_59 rfl (lv_at hl 1 rfl) ?_
    refine lv_bipush (v := 100) hx hb dX5_thirty_60 (by decide) ?_
    refine lv_idiv hx hb dX5_thirty_62 (by decide) ?_
    refine lv_bipush (v := 100) hx hb dX5_thirty_63 (by decide) ?_
    refine lv_irem hx hb dX5_thirty_65 (by decide) ?_
    refine lv_isub hx hb dX5_thirty_66 ?_
    refine lv_imul hx hb dX5_thirty_67 ?_
    refine lv_iadd hx hb dX5_thirty_68 ?_
    refine lv_iload_n hx hb dX5_thirty_69 rfl (lv_at hl 0 rfl) ?_
    refine lv_iadd hx hb dX5_thirty_70 ?_
    refine lv_iload_n hx hb dX5_thirty_71 rfl (lv_at hl 3 rfl) ?_
    refine lv_isub hx hb dX5_thirty_72 ?_
    exact W.iret hx hb hr (fun t ht _ => ⟨_, rfl, Option.some.inj hf, ht⟩) (fun q hq => absurd hq List.not_mem_nil) dX5_thirty_73
  obtain ⟨K4, hK4, hf⟩ := jn_s hf
  have JK4 : ∀  (ls : Array Slot), lv_has ls 4 [(0, .int a0), (1, .int a1), (2, .int x1)] → K4 () = some r → W p l e (headSpec wsX5_thirty ({ frames := 1, cells := 0, slots := 0, locals := 13 })).room s m ([.int a0, .int a1] : List Value).toArray below meth c s.heap [] 0 0 (MQ below (QSi r) ([.int a0, .int a1] : List Value).toArray s 0 0 (fun _ => False)) (F0 m 30 ls []) := by
    intro  ls hl hf
    rw [hK4] at hf
    refine lv_iload_n hx hb dX5_thirty_30 rfl (lv_at hl 1 rfl) ?_
    refine lv_bipush (v := 100) hx hb dX5_thirty_31 (by decide) ?_
    refine lv_irem hx hb dX5_thirty_33 (by decide) ?_
    exact JK2 (a1 - a1 / 100 * 100) ls (lv_sub hl [0, 1, 2] rfl) hf
  refine lv_icmp_ne (tgt := 30) hx hb dX5_thirty_16 (by decide) (fun c5 => ?_) (fun c5 => ?_)
  · have hf := ie hf c5
    exact JK4  ls (lv_sub hl [1, 2, 0] rfl) hf
  · have hf := it hf c5
    refine lv_iload_n hx hb dX5_thirty_19 rfl (lv_at hl 0 rfl) ?_
    refine lv_bipush (v := 30) hx hb dX5_thirty_20 (by decide) ?_
    refine lv_icmp_ne (tgt := 30) hx hb dX5_thirty_22 (by decide) (fun c6 => ?_) (fun c6 => ?_)
    · have hf := ie hf c6
      exact JK4  ls (lv_sub hl [1, 2, 0] rfl) hf
    · have hf := it hf c6
      refine lv_bipush (v := 30) hx hb dX5_thirty_25 (by decide) ?_
      refine lv_goto (tgt := 34) hx hb dX5_thirty_27 (by decide) ?_
      exact JK2 30 ls (lv_sub hl [1, 2, 0] rfl) hf
def f_X5_interest (N : Nat) (mof : Nat → Int32) (mdy : Nat → Int32) (a0 : Int32) (a1 : Int32) (a2 : Int32) (a3 : Int32) (a4 : Int32) : Option Int32 :=
  (f_X5_own mof a0 2).bind fun v1 : Int32 => bd ((a1.toInt64) * (v1.toInt64) : Int64) fun x2 : Int64 => (f_X5_own mof a0 4).bind fun v3 : Int32 => (if v3 = 0 then (f_X5_date N a2).bind fun v5 : Int32 => (f_X5_date N a3).bind fun v6 : Int32 => (f_X5_thirty v5 v6).bind fun v7 : Int32 => some (((x2 * (v7.toInt64)) / 3600000).toInt32) else (if v3 = 1 then some (((x2 * ((a3 - a2).toInt64)) / 3600000).toInt32) else (if v3 = 2 then some (((x2 * ((a3 - a2).toInt64)) / 3650000).toInt32) else (f_X5_own mof a0 3).bind fun v10 : Int32 => (f_X5_couponDay mdy a0 a4).bind fun v11 : Int32 => (f_X5_couponDay mdy a0 (a4 - 1)).bind fun v12 : Int32 => bd (((v10.toInt64) * ((v11 - v12).toInt64)) * 10000 : Int64) fun x13 : Int64 => gd (¬ x13 = 0) (some (((x2 * ((a3 - a2).toInt64)) / x13).toInt32)))))
set_option maxHeartbeats 4000000 in
set_option maxRecDepth 100000 in
theorem m_X5_interest (l : Launch) (D : va_G) (cI cJ cO : ClassId) (hm mh mo my mp : Nat) (M : Nat → Int32) (mc : Int64) (mhol mof mdy : Nat → Int32) (mpd : Nat → Int64) (a0 : Int32) (a1 : Int32) (a2 : Int32) (a3 : Int32) (a4 : Int32) (N : Nat) (r : Int32) (hf : f_X5_interest N mof mdy a0 a1 a2 a3 a4 = some r) : Met l yX5_interest wsX5_interest ({ frames := 2, cells := 0, slots := 0, locals := 44 }) (va_Pc [.ref hm, .int a0, .int a1, .int a2, .int a3, .int a4] (pw D (ty3 cI cJ cO) none [eM hm mh mo my mp M mc, eH cI mh mhol, eO cI mo mof, eY cI my mdy, eP cJ mp mpd])) (QSi r) 0 0 (fun _ => False) := by
  refine Met.ofW (cc := cX5_interest) (maxL := 8) (ret := (some .int)) (by decide) rfl ?_
  intro p e s m args below meth c s₁ Bd hml hv
  obtain ⟨rfl, hZ, hP, hK⟩ := hv
  have hx := Bd.exec
  have hb := Bd.bytes
  have hr := Bd.returns
  have hts := atoms_spec (ws := wsX5_interest) Bd.pre
  have hown : s.vm.findClass RX5 = some m.cls := findClass_of_methodNamed Bd.named
  have hlocks := Bd.notSynchronized
  have hl := lv_entry ([.ref hm, .int a0, .int a1, .int a2, .int a3, .int a4]) (n := 8) (Nat.le_of_ble_eq_true rfl)
  rw [lg_entry_eq]
  generalize (lg_sl ([.ref hm, .int a0, .int a1, .int a2, .int a3, .int a4]) ++ List.replicate (8 - (lg_sl ([.ref hm, .int a0, .int a1, .int a2, .int a3, .int a4])).length) Slot.unset).toArray = ls at hl ⊢
  have hl : lv_has ls 8 [(0, .ref hm), (1, .int a0), (2, .int a1), (3, .int a2), (4, .int a3), (5, .int a4)] := hl
  unfold f_X5_interest at hf
  refine lv_iload_n hx hb dX5_interest_0 rfl (lv_at hl 2 rfl) ?_
  refine lv_i2l hx hb dX5_interest_1 rfl ?_
  refine lv_aload_n hx hb dX5_interest_2 rfl (lv_at hl 0 rfl) ?_
  refine lv_iload_n hx hb dX5_interest_3 rfl (lv_at hl 1 rfl) ?_
  refine lv_iconst (v := 2) hx hb dX5_interest_4 (by decide) ?_
  obtain ⟨v1, hv1, hf⟩ := ob hf
  refine cSi (W.runV (As := [.int a0, .int 2]) (rest := [.long (a1.toInt64)]) ⟨hx, hb, hml, hown, hts⟩ (m_X5_own l D cI cJ cO hm mh mo my mp M mc mhol mof mdy mpd a0 2 v1 hv1) (cwV 2 hts gX5_interest_X5_own rfl rfl rfl (by decide +kernel) ⟨Nat.le_of_ble_eq_true rfl, Nat.le_of_ble_eq_true rfl⟩) ⟨pw_blind, va_recv hK hP (ci := 4) (q0 := 0) rfl rfl, fun U hU hW => ⟨rfl, pw_at hZ va_S.rf hP hK hU hW (Or.inr rfl) [0, 1, 2, 3, 4] rfl⟩⟩ rfl rfl hl.1 rfl (lv_room (Nat.le_of_ble_eq_true rfl)) dX5_interest_5 ⟨Nat.zero_le _, Nat.zero_le _⟩) ?_
  refine lv_i2l hx hb dX5_interest_8 rfl ?_
  refine lv_lmul hx hb dX5_interest_9 ?_
  refine lv_topl (fun x2 ex2 => ?_)
  have hf := bd_s hf ex2
  refine lv_lstore (lv' := [(6, .long x2), (0, .ref hm), (1, .int a0), (2, .int a1), (3, .int a2), (4, .int a3), (5, .int a4)]) hx hb dX5_interest_10 hl (by decide) rfl (fun ls hl => ?_)
  refine lv_aload_n hx hb dX5_interest_12 rfl (lv_at hl 1 rfl) ?_
  refine lv_iload_n hx hb dX5_interest_13 rfl (lv_at hl 2 rfl) ?_
  refine lv_iconst (v := 4) hx hb dX5_interest_14 (by decide) ?_
  obtain ⟨v3, hv3, hf⟩ := ob hf
  refine cSi (W.runV (As := [.int a0, .int 4]) (rest := []) ⟨hx, hb, hml, hown, hts⟩ (m_X5_own l D cI cJ cO hm mh mo my mp M mc mhol mof mdy mpd a0 4 v3 hv3) (cwV 2 hts gX5_interest_X5_own rfl rfl rfl (by decide +kernel) ⟨Nat.le_of_ble_eq_true rfl, Nat.le_of_ble_eq_true rfl⟩) ⟨pw_blind, va_recv hK hP (ci := 4) (q0 := 0) rfl rfl, fun U hU hW => ⟨rfl, pw_at hZ va_S.rf hP hK hU hW (Or.inr rfl) [0, 1, 2, 3, 4] rfl⟩⟩ rfl rfl hl.1 rfl (lv_room (Nat.le_of_ble_eq_true rfl)) dX5_interest_15 ⟨Nat.zero_le _, Nat.zero_le _⟩) ?_
  by_cases c4 : v3 = 0
  · have hf := it hf c4
    refine lv_tableIn (off := 26) (tgt := 44) hx hb dX5_interest_18 (by rw [c4]; decide) (by rw [c4]; decide) (by rw [c4]; rfl) (by decide) ?_
    refine lv_lload hx hb dX5_interest_44 (lv_at hl 0 rfl) ?_
    refine lv_iload_n hx hb dX5_interest_46 rfl (lv_at hl 4 rfl) ?_
    obtain ⟨v5, hv5, hf⟩ := ob hf
    refine cSi (W.runS (As := [.int a2]) (rest := [.long x2]) ⟨hx, hb, hml, hown, hts⟩ (m_X5_date l D cI cJ cO a2 N v5 hv5) (va_cwS 1 hts gX5_interest_X5_date rfl rfl rfl (by decide +kernel) ⟨Nat.le_of_ble_eq_true rfl, Nat.le_of_ble_eq_true rfl⟩) ⟨pw_blind, fun U hU hW => ⟨rfl, pw_at hZ va_S.rf hP hK hU hW (Or.inr rfl) [] rfl⟩⟩ rfl rfl hl.1 rfl (lv_room (Nat.le_of_ble_eq_true rfl)) dX5_interest_47 ⟨Nat.zero_le _, Nat.zero_le _⟩) ?_
    refine lv_iload hx hb dX5_interest_50 (lv_at hl 5 rfl) ?_
    obtain ⟨v6, hv6, hf⟩ := ob hf
    refine cSi (W.runS (As := [.int a3]) (rest := [.int v5, .long x2]) ⟨hx, hb, hml, hown, hts⟩ (m_X5_date l D cI cJ cO a3 N v6 hv6) (va_cwS 1 hts gX5_interest_X5_date rfl rfl rfl (by decide +kernel) ⟨Nat.le_of_ble_eq_true rfl, Nat.le_of_ble_eq_true rfl⟩) ⟨pw_blind, fun U hU hW => ⟨rfl, pw_at hZ va_S.rf hP hK hU hW (Or.inr rfl) [] rfl⟩⟩ rfl rfl hl.1 rfl (lv_room (Nat.le_of_ble_eq_true rfl)) dX5_interest_52 ⟨Nat.zero_le _, Nat.zero_le _⟩) ?_
    obtain ⟨v7, hv7, hf⟩ := ob hf
    refine cSi (W.runS (As := [.int v5, .int v6]) (rest := [.long x2]) ⟨hx, hb, hml, hown, hts⟩ (m_X5_thirty l D cI cJ cO v5 v6 v7 hv7) (va_cwS 2 hts gX5_interest_X5_thirty rfl rfl rfl (by decide +kernel) ⟨Nat.le_of_ble_eq_true rfl, Nat.le_of_ble_eq_true rfl⟩) ⟨pw_blind, fun U hU hW => ⟨rfl, pw_at hZ va_S.rf hP hK hU hW (Or.inr rfl) [] rfl⟩⟩ rfl rfl hl.1 rfl (lv_room (Nat.le_of_ble_eq_true rfl)) dX5_interest_55 ⟨Nat.zero_le _, Nat.zero_le _⟩) ?_
    refine lv_i2l hx hb dX5_interest_58 rfl ?_
    refine lv_lmul hx hb dX5_interest_59 ?_
    refine lv_ldc2 hx hb hown (hts (.constantLong RX5 128 (3600000)) (by decide +kernel)) dX5_interest_60 ?_
    refine lv_ldiv hx hb dX5_interest_63 (by decide) ?_
    refine lv_l2i hx hb dX5_interest_64 rfl ?_
    exact W.iret hx hb hr (fun t ht _ => ⟨_, rfl, Option.some.inj hf, ht⟩) (fun q hq => absurd hq List.not_mem_nil) dX5_interest_65
  have hf := ie hf c4
  by_cases c8 : v3 = 1
  · have hf := it hf c8
    refine lv_tableIn (off := 48) (tgt := 66) hx hb dX5_interest_18 (by rw [c8]; decide) (by rw [c8]; decide) (by rw [c8]; rfl) (by decide) ?_
    refine lv_lload hx hb dX5_interest_66 (lv_at hl 0 rfl) ?_
    refine lv_iload hx hb dX5_interest_68 (lv_at hl 5 rfl) ?_
    refine lv_iload_n hx hb dX5_interest_70 rfl (lv_at hl 4 rfl) ?_
    refine lv_isub hx hb dX5_interest_71 ?_
    refine lv_i2l hx hb dX5_interest_72 rfl ?_
    refine lv_lmul hx hb dX5_interest_73 ?_
    refine lv_ldc2 hx hb hown (hts (.constantLong RX5 128 (3600000)) (by decide +kernel)) dX5_interest_74 ?_
    refine lv_ldiv hx hb dX5_interest_77 (by decide) ?_
    refine lv_l2i hx hb dX5_interest_78 rfl ?_
    exact W.iret hx hb hr (fun t ht _ => ⟨_, rfl, Option.some.inj hf, ht⟩) (fun q hq => absurd hq List.not_mem_nil) dX5_interest_79
  have hf := ie hf c8
  by_cases c9 : v3 = 2
  · have hf := it hf c9
    refine lv_tableIn (off := 62) (tgt := 80) hx hb dX5_interest_18 (by rw [c9]; decide) (by rw [c9]; decide) (by rw [c9]; rfl) (by decide) ?_
    refine lv_lload hx hb dX5_interest_80 (lv_at hl 0 rfl) ?_
    refine lv_iload hx hb dX5_interest_82 (lv_at hl 5 rfl) ?_
    refine lv_iload_n hx hb dX5_interest_84 rfl (lv_at hl 4 rfl) ?_
    refine lv_isub hx hb dX5_interest_85 ?_
    refine lv_i2l hx hb dX5_interest_86 rfl ?_
    refine lv_lmul hx hb dX5_interest_87 ?_
    refine lv_ldc2 hx hb hown (hts (.constantLong RX5 130 (3650000)) (by decide +kernel)) dX5_interest_88 ?_
    refine lv_ldiv hx hb dX5_interest_91 (by decide) ?_
    refine lv_l2i hx hb dX5_interest_92 rfl ?_
    exact W.iret hx hb hr (fun t ht _ => ⟨_, rfl, Option.some.inj hf, ht⟩) (fun q hq => absurd hq List.not_mem_nil) dX5_interest_93
  have hf := ie hf c9
  have tc4 : ¬ v3.toInt = 0 := ne_ti c4
  have tc8 : ¬ v3.toInt = 1 := ne_ti c8
  have tc9 : ¬ v3.toInt = 2 := ne_ti c9
  refine lv_tableOut (tgt := 94) hx hb dX5_interest_18 (by omega) (by decide) ?_
  refine lv_lload hx hb dX5_interest_94 (lv_at hl 0 rfl) ?_
  refine lv_iload hx hb dX5_interest_96 (lv_at hl 5 rfl) ?_
  refine lv_iload_n hx hb dX5_interest_98 rfl (lv_at hl 4 rfl) ?_
  refine lv_isub hx hb dX5_interest_99 ?_
  refine lv_i2l hx hb dX5_interest_100 rfl ?_
  refine lv_lmul hx hb dX5_interest_101 ?_
  refine lv_aload_n hx hb dX5_interest_102 rfl (lv_at hl 1 rfl) ?_
  refine lv_iload_n hx hb dX5_interest_103 rfl (lv_at hl 2 rfl) ?_
  refine lv_iconst (v := 3) hx hb dX5_interest_104 (by decide) ?_
  obtain ⟨v10, hv10, hf⟩ := ob hf
  refine cSi (W.runV (As := [.int a0, .int 3]) (rest := [.long (x2 * ((a3 - a2).toInt64))]) ⟨hx, hb, hml, hown, hts⟩ (m_X5_own l D cI cJ cO hm mh mo my mp M mc mhol mof mdy mpd a0 3 v10 hv10) (cwV 2 hts gX5_interest_X5_own rfl rfl rfl (by decide +kernel) ⟨Nat.le_of_ble_eq_true rfl, Nat.le_of_ble_eq_true rfl⟩) ⟨pw_blind, va_recv hK hP (ci := 4) (q0 := 0) rfl rfl, fun U hU hW => ⟨rfl, pw_at hZ va_S.rf hP hK hU hW (Or.inr rfl) [0, 1, 2, 3, 4] rfl⟩⟩ rfl rfl hl.1 rfl (lv_room (Nat.le_of_ble_eq_true rfl)) dX5_interest_105 ⟨Nat.zero_le _, Nat.zero_le _⟩) ?_
  refine lv_i2l hx hb dX5_interest_108 rfl ?_
  refine lv_aload_n hx hb dX5_interest_109 rfl (lv_at hl 1 rfl) ?_
  refine lv_iload_n hx hb dX5_interest_110 rfl (lv_at hl 2 rfl) ?_
  refine lv_iload hx hb dX5_interest_111 (lv_at hl 6 rfl) ?_
  obtain ⟨v11, hv11, hf⟩ := ob hf
  refine cSi (W.runV (As := [.int a0, .int a4]) (rest := [.long (v10.toInt64), .long (x2 * ((a3 - a2).toInt64))]) ⟨hx, hb, hml, hown, hts⟩ (m_X5_couponDay l D cI cJ cO hm mh mo my mp M mc mhol mof mdy mpd a0 a4 v11 hv11) (cwV 2 hts gX5_interest_X5_couponDay rfl rfl rfl (by decide +kernel) ⟨Nat.le_of_ble_eq_true rfl, Nat.le_of_ble_eq_true rfl⟩) ⟨pw_blind, va_recv hK hP (ci := 4) (q0 := 0) rfl rfl, fun U hU hW => ⟨rfl, pw_at hZ va_S.rf hP hK hU hW (Or.inr rfl) [0, 1, 2, 3, 4] rfl⟩⟩ rfl rfl hl.1 rfl (lv_room (Nat.le_of_ble_eq_true rfl)) dX5_interest_113 ⟨Nat.zero_le _, Nat.zero_le _⟩) ?_
  refine lv_aload_n hx hb dX5_interest_116 rfl (lv_at hl 1 rfl) ?_
  refine lv_iload_n hx hb dX5_interest_117 rfl (lv_at hl 2 rfl) ?_
  refine lv_iload hx hb dX5_interest_118 (lv_at hl 6 rfl) ?_
  refine lv_iconst (v := 1) hx hb dX5_interest_120 (by decide) ?_
  refine lv_isub hx hb dX5_interest_121 ?_
  obtain ⟨v12, hv12, hf⟩ := ob hf
  refine cSi (W.runV (As := [.int a0, .int (a4 - 1)]) (rest := [.int v11, .long (v10.toInt64), .long (x2 * ((a3 - a2).toInt64))]) ⟨hx, hb, hml, hown, hts⟩ (m_X5_couponDay l D cI cJ cO hm mh mo my mp M mc mhol mof mdy mpd a0 (a4 - 1) v12 hv12) (cwV 2 hts gX5_interest_X5_couponDay rfl rfl rfl (by decide +kernel) ⟨Nat.le_of_ble_eq_true rfl, Nat.le_of_ble_eq_true rfl⟩) ⟨pw_blind, va_recv hK hP (ci := 4) (q0 := 0) rfl rfl, fun U hU hW => ⟨rfl, pw_at hZ va_S.rf hP hK hU hW (Or.inr rfl) [0, 1, 2, 3, 4] rfl⟩⟩ rfl rfl hl.1 rfl (lv_room (Nat.le_of_ble_eq_true rfl)) dX5_interest_122 ⟨Nat.zero_le _, Nat.zero_le _⟩) ?_
  refine lv_isub hx hb dX5_interest_125 ?_
  refine lv_i2l hx hb dX5_interest_126 rfl ?_
  refine lv_lmul hx hb dX5_interest_127 ?_
  refine lv_ldc2 hx hb hown (hts (.constantLong RX5 132 (10000)) (by decide +kernel)) dX5_interest_128 ?_
  refine lv_lmul hx hb dX5_interest_131 ?_
  refine lv_topl (fun x13 ex13 => ?_)
  have hf := bd_s hf ex13
  obtain ⟨c14, hf⟩ := gd_s hf
  refine lv_ldiv hx hb dX5_interest_132 c14 ?_
  refine lv_l2i hx hb dX5_interest_133 rfl ?_
  exact W.iret hx hb hr (fun t ht _ => ⟨_, rfl, Option.some.inj hf, ht⟩) (fun q hq => absurd hq List.not_mem_nil) dX5_interest_134
def f_X5_beginning (mof : Nat → Int32) (mdy : Nat → Int32) (a0 : Int32) (a1 : Int32) : Option Int32 :=
  (if a1 = 0 then (f_X5_own mof a0 0).bind fun v3 : Int32 => (f_X5_couponDay mdy a0 ((-1))).bind fun v4 : Int32 => bd (if v3 < v4 then v4 else v3 : Int32) fun x5 : Int32 => some x5 else (f_X5_couponDay mdy a0 (a1 - 1)).bind fun v2 : Int32 => some v2)
set_option maxHeartbeats 4000000 in
set_option maxRecDepth 100000 in
theorem m_X5_beginning (l : Launch) (D : va_G) (cI cJ cO : ClassId) (hm mh mo my mp : Nat) (M : Nat → Int32) (mc : Int64) (mhol mof mdy : Nat → Int32) (mpd : Nat → Int64) (a0 : Int32) (a1 : Int32) (r : Int32) (hf : f_X5_beginning mof mdy a0 a1 = some r) : Met l yX5_beginning wsX5_beginning ({ frames := 1, cells := 0, slots := 0, locals := 22 }) (va_Pc [.ref hm, .int a0, .int a1] (pw D (ty3 cI cJ cO) none [eM hm mh mo my mp M mc, eH cI mh mhol, eO cI mo mof, eY cI my mdy, eP cJ mp mpd])) (QSi r) 0 0 (fun _ => False) := by
  refine Met.ofW (cc := cX5_beginning) (maxL := 3) (ret := (some .int)) (by decide) rfl ?_
  intro p e s m args below meth c s₁ Bd hml hv
  obtain ⟨rfl, hZ, hP, hK⟩ := hv
  have hx := Bd.exec
  have hb := Bd.bytes
  have hr := Bd.returns
  have hts := atoms_spec (ws := wsX5_beginning) Bd.pre
  have hown : s.vm.findClass RX5 = some m.cls := findClass_of_methodNamed Bd.named
  have hlocks := Bd.notSynchronized
  have hl := lv_entry ([.ref hm, .int a0, .int a1]) (n := 3) (Nat.le_of_ble_eq_true rfl)
  rw [lg_entry_eq]
  generalize (lg_sl ([.ref hm, .int a0, .int a1]) ++ List.replicate (3 - (lg_sl ([.ref hm, .int a0, .int a1])).length) Slot.unset).toArray = ls at hl ⊢
  have hl : lv_has ls 3 [(0, .ref hm), (1, .int a0), (2, .int a1)] := hl
  unfold f_X5_beginning at hf
  refine lv_iload_n hx hb dX5_beginning_0 rfl (lv_at hl 2 rfl) ?_
  refine lv_if_ne (tgt := 22) hx hb dX5_beginning_1 (by decide) (fun c1 => ?_) (fun c1 => ?_)
  · have hf := ie hf c1
    refine lv_aload_n hx hb dX5_beginning_22 rfl (lv_at hl 0 rfl) ?_
    refine lv_iload_n hx hb dX5_beginning_23 rfl (lv_at hl 1 rfl) ?_
    refine lv_iload_n hx hb dX5_beginning_24 rfl (lv_at hl 2 rfl) ?_
    refine lv_iconst (v := 1) hx hb dX5_beginning_25 (by decide) ?_
    refine lv_isub hx hb dX5_beginning_26 ?_
    obtain ⟨v2, hv2, hf⟩ := ob hf
    refine cSi (W.runV (As := [.int a0, .int (a1 - 1)]) (rest := []) ⟨hx, hb, hml, hown, hts⟩ (m_X5_couponDay l D cI cJ cO hm mh mo my mp M mc mhol mof mdy mpd a0 (a1 - 1) v2 hv2) (cwV 2 hts gX5_beginning_X5_couponDay rfl rfl rfl (by decide +kernel) ⟨Nat.le_of_ble_eq_true rfl, Nat.le_of_ble_eq_true rfl⟩) ⟨pw_blind, va_recv hK hP (ci := 4) (q0 := 0) rfl rfl, fun U hU hW => ⟨rfl, pw_at hZ va_S.rf hP hK hU hW (Or.inr rfl) [0, 1, 2, 3, 4] rfl⟩⟩ rfl rfl hl.1 rfl (lv_room (Nat.le_of_ble_eq_true rfl)) dX5_beginning_27 ⟨Nat.zero_le _, Nat.zero_le _⟩) ?_
    exact W.iret hx hb hr (fun t ht _ => ⟨_, rfl, Option.some.inj hf, ht⟩) (fun q hq => absurd hq List.not_mem_nil) dX5_beginning_30
  · have hf := it hf c1
    refine lv_aload_n hx hb dX5_beginning_4 rfl (lv_at hl 0 rfl) ?_
    refine lv_iload_n hx hb dX5_beginning_5 rfl (lv_at hl 1 rfl) ?_
    refine lv_iconst (v := 0) hx hb dX5_beginning_6 (by decide) ?_
    obtain ⟨v3, hv3, hf⟩ := ob hf
    refine cSi (W.runV (As := [.int a0, .int 0]) (rest := []) ⟨hx, hb, hml, hown, hts⟩ (m_X5_own l D cI cJ cO hm mh mo my mp M mc mhol mof mdy mpd a0 0 v3 hv3) (cwV 2 hts gX5_beginning_X5_own rfl rfl rfl (by decide +kernel) ⟨Nat.le_of_ble_eq_true rfl, Nat.le_of_ble_eq_true rfl⟩) ⟨pw_blind, va_recv hK hP (ci := 4) (q0 := 0) rfl rfl, fun U hU hW => ⟨rfl, pw_at hZ va_S.rf hP hK hU hW (Or.inr rfl) [0, 1, 2, 3, 4] rfl⟩⟩ rfl rfl hl.1 rfl (lv_room (Nat.le_of_ble_eq_true rfl)) dX5_beginning_7 ⟨Nat.zero_le _, Nat.zero_le _⟩) ?_
    refine lv_aload_n hx hb dX5_beginning_10 rfl (lv_at hl 0 rfl) ?_
    refine lv_iload_n hx hb dX5_beginning_11 rfl (lv_at hl 1 rfl) ?_
    refine lv_iconst (v := (-1)) hx hb dX5_beginning_12 (by decide) ?_
    obtain ⟨v4, hv4, hf⟩ := ob hf
    refine cSi (W.runV (As := [.int a0, .int ((-1))]) (rest := [.int v3]) ⟨hx, hb, hml, hown, hts⟩ (m_X5_couponDay l D cI cJ cO hm mh mo my mp M mc mhol mof mdy mpd a0 ((-1)) v4 hv4) (cwV 2 hts gX5_beginning_X5_couponDay rfl rfl rfl (by decide +kernel) ⟨Nat.le_of_ble_eq_true rfl, Nat.le_of_ble_eq_true rfl⟩) ⟨pw_blind, va_recv hK hP (ci := 4) (q0 := 0) rfl rfl, fun U hU hW => ⟨rfl, pw_at hZ va_S.rf hP hK hU hW (Or.inr rfl) [0, 1, 2, 3, 4] rfl⟩⟩ rfl rfl hl.1 rfl (lv_room (Nat.le_of_ble_eq_true rfl)) dX5_beginning_13 ⟨Nat.zero_le _, Nat.zero_le _⟩) ?_
    refine va_mmax hx hb (hml.trans hl.1.symm) hown (hts (.methodLink RX5 104 Lib.Math.max.name) (by decide +kernel)) (hts (.static Lib.Math.max.name) (by decide +kernel)) (hts (.initialized "java/lang/Math") (by decide +kernel)) (hts (.code Lib.Math.max.name Lib.Math.max.code 2 (some .int)) (by decide +kernel)) (Nat.le_of_ble_eq_true rfl) (Nat.le_of_ble_eq_true rfl) (Nat.zero_le _) (Nat.zero_le _) dX5_beginning_16 ?_
    refine lv_topi (fun x5 ex5 => ?_)
    have hf := bd_s hf ex5
    refine lv_goto (tgt := 30) hx hb dX5_beginning_19 (by decide) ?_
    exact W.iret hx hb hr (fun t ht _ => ⟨_, rfl, Option.some.inj hf, ht⟩) (fun q hq => absurd hq List.not_mem_nil) dX5_beginning_30
def f_X5_coupon (N : Nat) (mof : Nat → Int32) (mdy : Nat → Int32) (a0 : Int32) (a1 : Int32) (a2 : Int64) : Option Int32 :=
  jn (fun (_ : Unit) => (f_X5_own mof a0 2).bind fun v2 : Int32 => (f_X5_own mof a0 3).bind fun v3 : Int32 => bd (10000 * (v3.toInt64) : Int64) fun x4 : Int64 => gd (¬ x4 = 0) (some (((a2 * (v2.toInt64)) / x4).toInt32))) fun K1 => (if a1 = 0 then (f_X5_couponDay mdy a0 ((-1))).bind fun v7 : Int32 => (f_X5_own mof a0 0).bind fun v8 : Int32 => (if v8 ≤ v7 then K1 () else (f_X5_own mof a0 0).bind fun v10 : Int32 => (f_X5_couponDay mdy a0 0).bind fun v11 : Int32 => (f_X5_interest N mof mdy a0 (a2.toInt32) v10 v11 0).bind fun v12 : Int32 => some v12) else K1 ())
set_option maxHeartbeats 4000000 in
set_option maxRecDepth 100000 in
theorem m_X5_coupon (l : Launch) (D : va_G) (cI cJ cO : ClassId) (hm mh mo my mp : Nat) (M : Nat → Int32) (mc : Int64) (mhol mof mdy : Nat → Int32) (mpd : Nat → Int64) (a0 : Int32) (a1 : Int32) (a2 : Int64) (N : Nat) (r : Int32) (hf : f_X5_coupon N mof mdy a0 a1 a2 = some r) : Met l yX5_coupon wsX5_coupon ({ frames := 3, cells := 0, slots := 0, locals := 71 }) (va_Pc [.ref hm, .int a0, .int a1, .long a2] (pw D (ty3 cI cJ cO) none [eM hm mh mo my mp M mc, eH cI mh mhol, eO cI mo mof, eY cI my mdy, eP cJ mp mpd])) (QSi r) 0 0 (fun _ => False) := by
  refine Met.ofW (cc := cX5_coupon) (maxL := 5) (ret := (some .int)) (by decide) rfl ?_
  intro p e s m args below meth c s₁ Bd hml hv
  obtain ⟨rfl, hZ, hP, hK⟩ := hv
  have hx := Bd.exec
  have hb := Bd.bytes
  have hr := Bd.returns
  have hts := atoms_spec (ws := wsX5_coupon) Bd.pre
  have hown : s.vm.findClass RX5 = some m.cls := findClass_of_methodNamed Bd.named
  have hlocks := Bd.notSynchronized
  have hl := lv_entry ([.ref hm, .int a0, .int a1, .long a2]) (n := 5) (Nat.le_of_ble_eq_true rfl)
  rw [lg_entry_eq]
  generalize (lg_sl ([.ref hm, .int a0, .int a1, .long a2]) ++ List.replicate (5 - (lg_sl ([.ref hm, .int a0, .int a1, .long a2])).length) Slot.unset).toArray = ls at hl ⊢
  have hl : lv_has ls 5 [(0, .ref hm), (1, .int a0), (2, .int a1), (3, .long a2)] := hl
  unfold f_X5_coupon at hf
  refine lv_iload_n hx hb dX5_coupon_0 rfl (lv_at hl 2 rfl) ?_
  obtain ⟨K1, hK1, hf⟩ := jn_s hf
  have JK1 : ∀  (ls : Array Slot), lv_has ls 5 [(0, .ref hm), (1, .int a0), (3, .long a2)] → K1 () = some r → W p l e (headSpec wsX5_coupon ({ frames := 3, cells := 0, slots := 0, locals := 71 })).room s m ([.ref hm, .int a0, .int a1, .long a2] : List Value).toArray below meth c s.heap [] 0 0 (MQ below (QSi r) ([.ref hm, .int a0, .int a1, .long a2] : List Value).toArray s 0 0 (fun _ => False)) (F0 m 40 ls []) := by
    intro  ls hl hf
    rw [hK1] at hf
    refine lv_lload_n hx hb dX5_coupon_40 rfl (lv_at hl 2 rfl) ?_
    refine lv_aload_n hx hb dX5_coupon_41 rfl (lv_at hl 0 rfl) ?_
    refine lv_iload_n hx hb dX5_coupon_42 rfl (lv_at hl 1 rfl) ?_
    refine lv_iconst (v := 2) hx hb dX5_coupon_43 (by decide) ?_
    obtain ⟨v2, hv2, hf⟩ := ob hf
    refine cSi (W.runV (As := [.int a0, .int 2]) (rest := [.long a2]) ⟨hx, hb, hml, hown, hts⟩ (m_X5_own l D cI cJ cO hm mh mo my mp M mc mhol mof mdy mpd a0 2 v2 hv2) (cwV 2 hts gX5_coupon_X5_own rfl rfl rfl (by decide +kernel) ⟨Nat.le_of_ble_eq_true rfl, Nat.le_of_ble_eq_true rfl⟩) ⟨pw_blind, va_recv hK hP (ci := 4) (q0 := 0) rfl rfl, fun U hU hW => ⟨rfl, pw_at hZ va_S.rf hP hK hU hW (Or.inr rfl) [0, 1, 2, 3, 4] rfl⟩⟩ rfl rfl hl.1 rfl (lv_room (Nat.le_of_ble_eq_true rfl)) dX5_coupon_44 ⟨Nat.zero_le _, Nat.zero_le _⟩) ?_
    refine lv_i2l hx hb dX5_coupon_47 rfl ?_
    refine lv_lmul hx hb dX5_coupon_48 ?_
    refine lv_ldc2 hx hb hown (hts (.constantLong RX5 132 (10000)) (by decide +kernel)) dX5_coupon_49 ?_
    refine lv_aload_n hx hb dX5_coupon_52 rfl (lv_at hl 0 rfl) ?_
    refine lv_iload_n hx hb dX5_coupon_53 rfl (lv_at hl 1 rfl) ?_
    refine lv_iconst (v := 3) hx hb dX5_coupon_54 (by decide) ?_
    obtain ⟨v3, hv3, hf⟩ := ob hf
    refine cSi (W.runV (As := [.int a0, .int 3]) (rest := [.long 10000, .long (a2 * (v2.toInt64))]) ⟨hx, hb, hml, hown, hts⟩ (m_X5_own l D cI cJ cO hm mh mo my mp M mc mhol mof mdy mpd a0 3 v3 hv3) (cwV 2 hts gX5_coupon_X5_own rfl rfl rfl (by decide +kernel) ⟨Nat.le_of_ble_eq_true rfl, Nat.le_of_ble_eq_true rfl⟩) ⟨pw_blind, va_recv hK hP (ci := 4) (q0 := 0) rfl rfl, fun U hU hW => ⟨rfl, pw_at hZ va_S.rf hP hK hU hW (Or.inr rfl) [0, 1, 2, 3, 4] rfl⟩⟩ rfl rfl hl.1 rfl (lv_room (Nat.le_of_ble_eq_true rfl)) dX5_coupon_55 ⟨Nat.zero_le _, Nat.zero_le _⟩) ?_
    refine lv_i2l hx hb dX5_coupon_58 rfl ?_
    refine lv_lmul hx hb dX5_coupon_59 ?_
    refine lv_topl (fun x4 ex4 => ?_)
    have hf := bd_s hf ex4
    obtain ⟨c5, hf⟩ := gd_s hf
    refine lv_ldiv hx hb dX5_coupon_60 c5 ?_
    refine lv_l2i hx hb dX5_coupon_61 rfl ?_
    exact W.iret hx hb hr (fun t ht _ => ⟨_, rfl, Option.some.inj hf, ht⟩) (fun q hq => absurd hq List.not_mem_nil) dX5_coupon_62
  refine lv_if_ne (tgt := 40) hx hb dX5_coupon_1 (by decide) (fun c6 => ?_) (fun c6 => ?_)
  · have hf := ie hf c6
    exact JK1  ls (lv_sub hl [0, 1, 3] rfl) hf
  · have hf := it hf c6
    refine lv_aload_n hx hb dX5_coupon_4 rfl (lv_at hl 0 rfl) ?_
    refine lv_iload_n hx hb dX5_coupon_5 rfl (lv_at hl 1 rfl) ?_
    refine lv_iconst (v := (-1)) hx hb dX5_coupon_6 (by decide) ?_
    obtain ⟨v7, hv7, hf⟩ := ob hf
    refine cSi (W.runV (As := [.int a0, .int ((-1))]) (rest := []) ⟨hx, hb, hml, hown, hts⟩ (m_X5_couponDay l D cI cJ cO hm mh mo my mp M mc mhol mof mdy mpd a0 ((-1)) v7 hv7) (cwV 2 hts gX5_coupon_X5_couponDay rfl rfl rfl (by decide +kernel) ⟨Nat.le_of_ble_eq_true rfl, Nat.le_of_ble_eq_true rfl⟩) ⟨pw_blind, va_recv hK hP (ci := 4) (q0 := 0) rfl rfl, fun U hU hW => ⟨rfl, pw_at hZ va_S.rf hP hK hU hW (Or.inr rfl) [0, 1, 2, 3, 4] rfl⟩⟩ rfl rfl hl.1 rfl (lv_room (Nat.le_of_ble_eq_true rfl)) dX5_coupon_7 ⟨Nat.zero_le _, Nat.zero_le _⟩) ?_
    refine lv_aload_n hx hb dX5_coupon_10 rfl (lv_at hl 0 rfl) ?_
    refine lv_iload_n hx hb dX5_coupon_11 rfl (lv_at hl 1 rfl) ?_
    refine lv_iconst (v := 0) hx hb dX5_coupon_12 (by decide) ?_
    obtain ⟨v8, hv8, hf⟩ := ob hf
    refine cSi (W.runV (As := [.int a0, .int 0]) (rest := [.int v7]) ⟨hx, hb, hml, hown, hts⟩ (m_X5_own l D cI cJ cO hm mh mo my mp M mc mhol mof mdy mpd a0 0 v8 hv8) (cwV 2 hts gX5_coupon_X5_own rfl rfl rfl (by decide +kernel) ⟨Nat.le_of_ble_eq_true rfl, Nat.le_of_ble_eq_true rfl⟩) ⟨pw_blind, va_recv hK hP (ci := 4) (q0 := 0) rfl rfl, fun U hU hW => ⟨rfl, pw_at hZ va_S.rf hP hK hU hW (Or.inr rfl) [0, 1, 2, 3, 4] rfl⟩⟩ rfl rfl hl.1 rfl (lv_room (Nat.le_of_ble_eq_true rfl)) dX5_coupon_13 ⟨Nat.zero_le _, Nat.zero_le _⟩) ?_
    refine lv_icmp_ge (tgt := 40) hx hb dX5_coupon_16 (by decide) (fun c9 => ?_) (fun c9 => ?_)
    · have hf := it hf c9
      exact JK1  ls (lv_sub hl [0, 1, 3] rfl) hf
    · have hf := ie hf c9
      refine lv_aload_n hx hb dX5_coupon_19 rfl (lv_at hl 0 rfl) ?_
      refine lv_iload_n hx hb dX5_coupon_20 rfl (lv_at hl 1 rfl) ?_
      refine lv_lload_n hx hb dX5_coupon_21 rfl (lv_at hl 3 rfl) ?_
      refine lv_l2i hx hb dX5_coupon_22 rfl ?_
      refine lv_aload_n hx hb dX5_coupon_23 rfl (lv_at hl 0 rfl) ?_
      refine lv_iload_n hx hb dX5_coupon_24 rfl (lv_at hl 1 rfl) ?_
      refine lv_iconst (v := 0) hx hb dX5_coupon_25 (by decide) ?_
      obtain ⟨v10, hv10, hf⟩ := ob hf
      refine cSi (W.runV (As := [.int a0, .int 0]) (rest := [.int (a2.toInt32), .int a0, .ref hm]) ⟨hx, hb, hml, hown, hts⟩ (m_X5_own l D cI cJ cO hm mh mo my mp M mc mhol mof mdy mpd a0 0 v10 hv10) (cwV 2 hts gX5_coupon_X5_own rfl rfl rfl (by decide +kernel) ⟨Nat.le_of_ble_eq_true rfl, Nat.le_of_ble_eq_true rfl⟩) ⟨pw_blind, va_recv hK hP (ci := 4) (q0 := 0) rfl rfl, fun U hU hW => ⟨rfl, pw_at hZ va_S.rf hP hK hU hW (Or.inr rfl) [0, 1, 2, 3, 4] rfl⟩⟩ rfl rfl hl.1 rfl (lv_room (Nat.le_of_ble_eq_true rfl)) dX5_coupon_26 ⟨Nat.zero_le _, Nat.zero_le _⟩) ?_
      refine lv_aload_n hx hb dX5_coupon_29 rfl (lv_at hl 0 rfl) ?_
      refine lv_iload_n hx hb dX5_coupon_30 rfl (lv_at hl 1 rfl) ?_
      refine lv_iconst (v := 0) hx hb dX5_coupon_31 (by decide) ?_
      obtain ⟨v11, hv11, hf⟩ := ob hf
      refine cSi (W.runV (As := [.int a0, .int 0]) (rest := [.int v10, .int (a2.toInt32), .int a0, .ref hm]) ⟨hx, hb, hml, hown, hts⟩ (m_X5_couponDay l D cI cJ cO hm mh mo my mp M mc mhol mof mdy mpd a0 0 v11 hv11) (cwV 2 hts gX5_coupon_X5_couponDay rfl rfl rfl (by decide +kernel) ⟨Nat.le_of_ble_eq_true rfl, Nat.le_of_ble_eq_true rfl⟩) ⟨pw_blind, va_recv hK hP (ci := 4) (q0 := 0) rfl rfl, fun U hU hW => ⟨rfl, pw_at hZ va_S.rf hP hK hU hW (Or.inr rfl) [0, 1, 2, 3, 4] rfl⟩⟩ rfl rfl hl.1 rfl (lv_room (Nat.le_of_ble_eq_true rfl)) dX5_coupon_32 ⟨Nat.zero_le _, Nat.zero_le _⟩) ?_
      refine lv_iconst (v := 0) hx hb dX5_coupon_35 (by decide) ?_
      obtain ⟨v12, hv12, hf⟩ := ob hf
      refine cSi (W.runV (As := [.int a0, .int (a2.toInt32), .int v10, .int v11, .int 0]) (rest := []) ⟨hx, hb, hml, hown, hts⟩ (m_X5_interest l D cI cJ cO hm mh mo my mp M mc mhol mof mdy mpd a0 (a2.toInt32) v10 v11 0 N v12 hv12) (cwV 5 hts gX5_coupon_X5_interest rfl rfl rfl (by decide +kernel) ⟨Nat.le_of_ble_eq_true rfl, Nat.le_of_ble_eq_true rfl⟩) ⟨pw_blind, va_recv hK hP (ci := 4) (q0 := 0) rfl rfl, fun U hU hW => ⟨rfl, pw_at hZ va_S.rf hP hK hU hW (Or.inr rfl) [0, 1, 2, 3, 4] rfl⟩⟩ rfl rfl hl.1 rfl (lv_room (Nat.le_of_ble_eq_true rfl)) dX5_coupon_36 ⟨Nat.zero_le _, Nat.zero_le _⟩) ?_
      exact W.iret hx hb hr (fun t ht _ => ⟨_, rfl, Option.some.inj hf, ht⟩) (fun q hq => absurd hq List.not_mem_nil) dX5_coupon_39
def f_X5_couponTold (N : Nat) (M : Nat → Int32) (mhol : Nat → Int32) (mof : Nat → Int32) (mdy : Nat → Int32) (a0 : Int32) (a1 : Int32) (a2 : Int32) : Option Int32 :=
  (if a2 = 0 then (f_X5_couponDay mdy a0 a1).bind fun v2 : Int32 => (f_X5_date N v2).bind fun v3 : Int32 => some v3 else (if a2 = 1 then (f_X5_couponDay mdy a0 a1).bind fun v5 : Int32 => (f_X5_firstWorking N M mhol v5).bind fun v6 : Int32 => (f_X5_date N v6).bind fun v7 : Int32 => some v7 else (if a2 = 2 then (f_X5_beginning mof mdy a0 a1).bind fun v9 : Int32 => (f_X5_date N v9).bind fun v10 : Int32 => some v10 else (f_X5_coupon N mof mdy a0 a1 100000).bind fun v11 : Int32 => some v11)))
set_option maxHeartbeats 4000000 in
set_option maxRecDepth 100000 in
theorem m_X5_couponTold (l : Launch) (D : va_G) (cI cJ cO : ClassId) (hm mh mo my mp : Nat) (M : Nat → Int32) (mc : Int64) (mhol mof mdy : Nat → Int32) (mpd : Nat → Int64) (a0 : Int32) (a1 : Int32) (a2 : Int32) (N : Nat) (r : Int32) (hf : f_X5_couponTold N M mhol mof mdy a0 a1 a2 = some r) : Met l yX5_couponTold wsX5_couponTold ({ frames := 4, cells := 0, slots := 0, locals := 95 }) (va_Pc [.ref hm, .int a0, .int a1, .int a2] (pw D (ty3 cI cJ cO) none [eM hm mh mo my mp M mc, eH cI mh mhol, eO cI mo mof, eY cI my mdy, eP cJ mp mpd])) (QSi r) 0 0 (fun _ => False) := by
  refine Met.ofW (cc := cX5_couponTold) (maxL := 4) (ret := (some .int)) (by decide) rfl ?_
  intro p e s m args below meth c s₁ Bd hml hv
  obtain ⟨rfl, hZ, hP, hK⟩ := hv
  have hx := Bd.exec
  have hb := Bd.bytes
  have hr := Bd.returns
  have hts := atoms_spec (ws := wsX5_couponTold) Bd.pre
  have hown : s.vm.findClass RX5 = some m.cls := findClass_of_methodNamed Bd.named
  have hlocks := Bd.notSynchronized
  have hl := lv_entry ([.ref hm, .int a0, .int a1, .int a2]) (n := 4) (Nat.le_of_ble_eq_true rfl)
  rw [lg_entry_eq]
  generalize (lg_sl ([.ref hm, .int a0, .int a1, .int a2]) ++ List.replicate (4 - (lg_sl ([.ref hm, .int a0, .int a1, .int a2])).length) Slot.unset).toArray = ls at hl ⊢
  have hl : lv_has ls 4 [(0, .ref hm), (1, .int a0), (2, .int a1), (3, .int a2)] := hl
  unfold f_X5_couponTold at hf
  refine lv_iload_n hx hb dX5_couponTold_0 rfl (lv_at hl 3 rfl) ?_
  by_cases c1 : a2 = 0
  · have hf := it hf c1
    refine lv_tableIn (off := 27) (tgt := 28) hx hb dX5_couponTold_1 (by rw [c1]; decide) (by rw [c1]; decide) (by rw [c1]; rfl) (by decide) ?_
    refine lv_aload_n hx hb dX5_couponTold_28 rfl (lv_at hl 0 rfl) ?_
    refine lv_iload_n hx hb dX5_couponTold_29 rfl (lv_at hl 1 rfl) ?_
    refine lv_iload_n hx hb dX5_couponTold_30 rfl (lv_at hl 2 rfl) ?_
    obtain ⟨v2, hv2, hf⟩ := ob hf
    refine cSi (W.runV (As := [.int a0, .int a1]) (rest := []) ⟨hx, hb, hml, hown, hts⟩ (m_X5_couponDay l D cI cJ cO hm mh mo my mp M mc mhol mof mdy mpd a0 a1 v2 hv2) (cwV 2 hts gX5_couponTold_X5_couponDay rfl rfl rfl (by decide +kernel) ⟨Nat.le_of_ble_eq_true rfl, Nat.le_of_ble_eq_true rfl⟩) ⟨pw_blind, va_recv hK hP (ci := 4) (q0 := 0) rfl rfl, fun U hU hW => ⟨rfl, pw_at hZ va_S.rf hP hK hU hW (Or.inr rfl) [0, 1, 2, 3, 4] rfl⟩⟩ rfl rfl hl.1 rfl (lv_room (Nat.le_of_ble_eq_true rfl)) dX5_couponTold_31 ⟨Nat.zero_le _, Nat.zero_le _⟩) ?_
    obtain ⟨v3, hv3, hf⟩ := ob hf
    refine cSi (W.runS (As := [.int v2]) (rest := []) ⟨hx, hb, hml, hown, hts⟩ (m_X5_date l D cI cJ cO v2 N v3 hv3) (va_cwS 1 hts gX5_couponTold_X5_date rfl rfl rfl (by decide +kernel) ⟨Nat.le_of_ble_eq_true rfl, Nat.le_of_ble_eq_true rfl⟩) ⟨pw_blind, fun U hU hW => ⟨rfl, pw_at hZ va_S.rf hP hK hU hW (Or.inr rfl) [] rfl⟩⟩ rfl rfl hl.1 rfl (lv_room (Nat.le_of_ble_eq_true rfl)) dX5_couponTold_34 ⟨Nat.zero_le _, Nat.zero_le _⟩) ?_
    exact W.iret hx hb hr (fun t ht _ => ⟨_, rfl, Option.some.inj hf, ht⟩) (fun q hq => absurd hq List.not_mem_nil) dX5_couponTold_37
  have hf := ie hf c1
  by_cases c4 : a2 = 1
  · have hf := it hf c4
    refine lv_tableIn (off := 37) (tgt := 38) hx hb dX5_couponTold_1 (by rw [c4]; decide) (by rw [c4]; decide) (by rw [c4]; rfl) (by decide) ?_
    refine lv_aload_n hx hb dX5_couponTold_38 rfl (lv_at hl 0 rfl) ?_
    refine lv_aload_n hx hb dX5_couponTold_39 rfl (lv_at hl 0 rfl) ?_
    refine lv_iload_n hx hb dX5_couponTold_40 rfl (lv_at hl 1 rfl) ?_
    refine lv_iload_n hx hb dX5_couponTold_41 rfl (lv_at hl 2 rfl) ?_
    obtain ⟨v5, hv5, hf⟩ := ob hf
    refine cSi (W.runV (As := [.int a0, .int a1]) (rest := [.ref hm]) ⟨hx, hb, hml, hown, hts⟩ (m_X5_couponDay l D cI cJ cO hm mh mo my mp M mc mhol mof mdy mpd a0 a1 v5 hv5) (cwV 2 hts gX5_couponTold_X5_couponDay rfl rfl rfl (by decide +kernel) ⟨Nat.le_of_ble_eq_true rfl, Nat.le_of_ble_eq_true rfl⟩) ⟨pw_blind, va_recv hK hP (ci := 4) (q0 := 0) rfl rfl, fun U hU hW => ⟨rfl, pw_at hZ va_S.rf hP hK hU hW (Or.inr rfl) [0, 1, 2, 3, 4] rfl⟩⟩ rfl rfl hl.1 rfl (lv_room (Nat.le_of_ble_eq_true rfl)) dX5_couponTold_42 ⟨Nat.zero_le _, Nat.zero_le _⟩) ?_
    obtain ⟨v6, hv6, hf⟩ := ob hf
    refine cSi (W.runV (As := [.int v5]) (rest := []) ⟨hx, hb, hml, hown, hts⟩ (m_X5_firstWorking l D cI cJ cO hm mh mo my mp M mc mhol mof mdy mpd v5 N v6 hv6) (cwV 1 hts gX5_couponTold_X5_firstWorking rfl rfl rfl (by decide +kernel) ⟨Nat.le_of_ble_eq_true rfl, Nat.le_of_ble_eq_true rfl⟩) ⟨pw_blind, va_recv hK hP (ci := 4) (q0 := 0) rfl rfl, fun U hU hW => ⟨rfl, pw_at hZ va_S.rf hP hK hU hW (Or.inr rfl) [0, 1, 2, 3, 4] rfl⟩⟩ rfl rfl hl.1 rfl (lv_room (Nat.le_of_ble_eq_true rfl)) dX5_couponTold_45 ⟨Nat.zero_le _, Nat.zero_le _⟩) ?_
    obtain ⟨v7, hv7, hf⟩ := ob hf
    refine cSi (W.runS (As := [.int v6]) (rest := []) ⟨hx, hb, hml, hown, hts⟩ (m_X5_date l D cI cJ cO v6 N v7 hv7) (va_cwS 1 hts gX5_couponTold_X5_date rfl rfl rfl (by decide +kernel) ⟨Nat.le_of_ble_eq_true rfl, Nat.le_of_ble_eq_true rfl⟩) ⟨pw_blind, fun U hU hW => ⟨rfl, pw_at hZ va_S.rf hP hK hU hW (Or.inr rfl) [] rfl⟩⟩ rfl rfl hl.1 rfl (lv_room (Nat.le_of_ble_eq_true rfl)) dX5_couponTold_48 ⟨Nat.zero_le _, Nat.zero_le _⟩) ?_
    exact W.iret hx hb hr (fun t ht _ => ⟨_, rfl, Option.some.inj hf, ht⟩) (fun q hq => absurd hq List.not_mem_nil) dX5_couponTold_51
  have hf := ie hf c4
  by_cases c8 : a2 = 2
  · have hf := it hf c8
    refine lv_tableIn (off := 51) (tgt := 52) hx hb dX5_couponTold_1 (by rw [c8]; decide) (by rw [c8]; decide) (by rw [c8]; rfl) (by decide) ?_
    refine lv_aload_n hx hb dX5_couponTold_52 rfl (lv_at hl 0 rfl) ?_
    refine lv_iload_n hx hb dX5_couponTold_53 rfl (lv_at hl 1 rfl) ?_
    refine lv_iload_n hx hb dX5_couponTold_54 rfl (lv_at hl 2 rfl) ?_
    obtain ⟨v9, hv9, hf⟩ := ob hf
    refine cSi (W.runV (As := [.int a0, .int a1]) (rest := []) ⟨hx, hb, hml, hown, hts⟩ (m_X5_beginning l D cI cJ cO hm mh mo my mp M mc mhol mof mdy mpd a0 a1 v9 hv9) (cwV 2 hts gX5_couponTold_X5_beginning rfl rfl rfl (by decide +kernel) ⟨Nat.le_of_ble_eq_true rfl, Nat.le_of_ble_eq_true rfl⟩) ⟨pw_blind, va_recv hK hP (ci := 4) (q0 := 0) rfl rfl, fun U hU hW => ⟨rfl, pw_at hZ va_S.rf hP hK hU hW (Or.inr rfl) [0, 1, 2, 3, 4] rfl⟩⟩ rfl rfl hl.1 rfl (lv_room (Nat.le_of_ble_eq_true rfl)) dX5_couponTold_55 ⟨Nat.zero_le _, Nat.zero_le _⟩) ?_
    obtain ⟨v10, hv10, hf⟩ := ob hf
    refine cSi (W.runS (As := [.int v9]) (rest := []) ⟨hx, hb, hml, hown, hts⟩ (m_X5_date l D cI cJ cO v9 N v10 hv10) (va_cwS 1 hts gX5_couponTold_X5_date rfl rfl rfl (by decide +kernel) ⟨Nat.le_of_ble_eq_true rfl, Nat.le_of_ble_eq_true rfl⟩) ⟨pw_blind, fun U hU hW => ⟨rfl, pw_at hZ va_S.rf hP hK hU hW (Or.inr rfl) [] rfl⟩⟩ rfl rfl hl.1 rfl (lv_room (Nat.le_of_ble_eq_true rfl)) dX5_couponTold_58 ⟨Nat.zero_le _, Nat.zero_le _⟩) ?_
    exact W.iret hx hb hr (fun t ht _ => ⟨_, rfl, Option.some.inj hf, ht⟩) (fun q hq => absurd hq List.not_mem_nil) dX5_couponTold_61
  have hf := ie hf c8
  have tc1 : ¬ a2.toInt = 0 := ne_ti c1
  have tc4 : ¬ a2.toInt = 1 := ne_ti c4
  have tc8 : ¬ a2.toInt = 2 := ne_ti c8
  refine lv_tableOut (tgt := 62) hx hb dX5_couponTold_1 (by omega) (by decide) ?_
  refine lv_aload_n hx hb dX5_couponTold_62 rfl (lv_at hl 0 rfl) ?_
  refine lv_iload_n hx hb dX5_couponTold_63 rfl (lv_at hl 1 rfl) ?_
  refine lv_iload_n hx hb dX5_couponTold_64 rfl (lv_at hl 2 rfl) ?_
  refine lv_ldc2 hx hb hown (hts (.constantLong RX5 141 (100000)) (by decide +kernel)) dX5_couponTold_65 ?_
  obtain ⟨v11, hv11, hf⟩ := ob hf
  refine cSi (W.runV (As := [.int a0, .int a1, .long 100000]) (rest := []) ⟨hx, hb, hml, hown, hts⟩ (m_X5_coupon l D cI cJ cO hm mh mo my mp M mc mhol mof mdy mpd a0 a1 100000 N v11 hv11) (cwV 3 hts gX5_couponTold_X5_coupon rfl rfl rfl (by decide +kernel) ⟨Nat.le_of_ble_eq_true rfl, Nat.le_of_ble_eq_true rfl⟩) ⟨pw_blind, va_recv hK hP (ci := 4) (q0 := 0) rfl rfl, fun U hU hW => ⟨rfl, pw_at hZ va_S.rf hP hK hU hW (Or.inr rfl) [0, 1, 2, 3, 4] rfl⟩⟩ rfl rfl hl.1 rfl (lv_room (Nat.le_of_ble_eq_true rfl)) dX5_couponTold_68 ⟨Nat.zero_le _, Nat.zero_le _⟩) ?_
  exact W.iret hx hb hr (fun t ht _ => ⟨_, rfl, Option.some.inj hf, ht⟩) (fun q hq => absurd hq List.not_mem_nil) dX5_couponTold_71
def f_X5_behind_L2 (mof : Nat → Int32) (a0 : Int32) (mdy : Nat → Int32) (a1 : Int32)  : Nat → Int32 → Option Int32
  | 0, _ => none
  | n2 + 1, x1 => (f_X5_own mof a0 6).bind fun v3 : Int32 => (if v3 ≤ x1 then some x1 else (f_X5_couponDay mdy a0 x1).bind fun v5 : Int32 => (if a1 < v5 then some x1 else bd (x1 + 1) fun x7 : Int32 => f_X5_behind_L2 mof a0 mdy a1 n2 x7))
def f_X5_behind (N : Nat) (mof : Nat → Int32) (mdy : Nat → Int32) (a0 : Int32) (a1 : Int32) : Option Int32 :=
  f_X5_behind_L2 mof a0 mdy a1 N 0
set_option maxHeartbeats 4000000 in
set_option maxRecDepth 100000 in
theorem m_X5_behind (l : Launch) (D : va_G) (cI cJ cO : ClassId) (hm mh mo my mp : Nat) (M : Nat → Int32) (mc : Int64) (mhol mof mdy : Nat → Int32) (mpd : Nat → Int64) (a0 : Int32) (a1 : Int32) (N : Nat) (r : Int32) (hf : f_X5_behind N mof mdy a0 a1 = some r) : Met l yX5_behind wsX5_behind ({ frames := 1, cells := 0, slots := 0, locals := 22 }) (va_Pc [.ref hm, .int a0, .int a1] (pw D (ty3 cI cJ cO) none [eM hm mh mo my mp M mc, eH cI mh mhol, eO cI mo mof, eY cI my mdy, eP cJ mp mpd])) (QSi r) 0 0 (fun _ => False) := by
  refine Met.ofW (cc := cX5_behind) (maxL := 4) (ret := (some .int)) (by decide) rfl ?_
  intro p e s m args below meth c s₁ Bd hml hv
  obtain ⟨rfl, hZ, hP, hK⟩ := hv
  have hx := Bd.exec
  have hb := Bd.bytes
  have hr := Bd.returns
  have hts := atoms_spec (ws := wsX5_behind) Bd.pre
  have hown : s.vm.findClass RX5 = some m.cls := findClass_of_methodNamed Bd.named
  have hlocks := Bd.notSynchronized
  have hl := lv_entry ([.ref hm, .int a0, .int a1]) (n := 4) (Nat.le_of_ble_eq_true rfl)
  rw [lg_entry_eq]
  generalize (lg_sl ([.ref hm, .int a0, .int a1]) ++ List.replicate (4 - (lg_sl ([.ref hm, .int a0, .int a1])).length) Slot.unset).toArray = ls at hl ⊢
  have hl : lv_has ls 4 [(0, .ref hm), (1, .int a0), (2, .int a1)] := hl
  unfold f_X5_behind at hf
  refine lv_iconst (v := 0) hx hb dX5_behind_0 (by decide) ?_
  refine lv_istore_n (lv' := [(3, .int 0), (0, .ref hm), (1, .int a0), (2, .int a1)]) hx hb dX5_behind_1 rfl hl (by decide) rfl (fun ls hl => ?_)
  have LP2 : ∀ (n2 : Nat) (x1 : Int32) (ls : Array Slot), lv_has ls 4 [(0, .ref hm), (1, .int a0), (2, .int a1), (3, .int x1)] → f_X5_behind_L2 mof a0 mdy a1 n2 x1 = some r → W p l e (headSpec wsX5_behind ({ frames := 1, cells := 0, slots := 0, locals := 22 })).room s m ([.ref hm, .int a0, .int a1] : List Value).toArray below meth c s.heap [] 0 0 (MQ below (QSi r) ([.ref hm, .int a0, .int a1] : List Value).toArray s 0 0 (fun _ => False)) (F0 m 2 ls []) := by
    intro n2
    induction n2 with
    | zero => intro x1 ls hl hf; exact (no_s hf).elim
    | succ n2 ih2 =>
      intro x1 ls hl hf
      rw [f_X5_behind_L2] at hf
      refine lv_iload_n hx hb dX5_behind_2 rfl (lv_at hl 3 rfl) ?_
      refine lv_aload_n hx hb dX5_behind_3 rfl (lv_at hl 0 rfl) ?_
      refine lv_iload_n hx hb dX5_behind_4 rfl (lv_at hl 1 rfl) ?_
      refine lv_bipush (v := 6) hx hb dX5_behind_5 (by decide) ?_
      obtain ⟨v3, hv3, hf⟩ := ob hf
      refine cSi (W.runV (As := [.int a0, .int 6]) (rest := [.int x1]) ⟨hx, hb, hml, hown, hts⟩ (m_X5_own l D cI cJ cO hm mh mo my mp M mc mhol mof mdy mpd a0 6 v3 hv3) (cwV 2 hts gX5_behind_X5_own rfl rfl rfl (by decide +kernel) ⟨Nat.le_of_ble_eq_true rfl, Nat.le_of_ble_eq_true rfl⟩) ⟨pw_blind, va_recv hK hP (ci := 4) (q0 := 0) rfl rfl, fun U hU hW => ⟨rfl, pw_at hZ va_S.rf hP hK hU hW (Or.inr rfl) [0, 1, 2, 3, 4] rfl⟩⟩ rfl rfl hl.1 rfl (lv_room (Nat.le_of_ble_eq_true rfl)) dX5_behind_7 ⟨Nat.zero_le _, Nat.zero_le _⟩) ?_
      refine lv_icmp_ge (tgt := 29) hx hb dX5_behind_10 (by decide) (fun c4 => ?_) (fun c4 => ?_)
      · have hf := it hf c4
        refine lv_iload_n hx hb dX5_behind_29 rfl (lv_at hl 3 rfl) ?_
        exact W.iret hx hb hr (fun t ht _ => ⟨_, rfl, Option.some.inj hf, ht⟩) (fun q hq => absurd hq List.not_mem_nil) dX5_behind_30
      · have hf := ie hf c4
        refine lv_aload_n hx hb dX5_behind_13 rfl (lv_at hl 0 rfl) ?_
        refine lv_iload_n hx hb dX5_behind_14 rfl (lv_at hl 1 rfl) ?_
        refine lv_iload_n hx hb dX5_behind_15 rfl (lv_at hl 3 rfl) ?_
        obtain ⟨v5, hv5, hf⟩ := ob hf
        refine cSi (W.runV (As := [.int a0, .int x1]) (rest := []) ⟨hx, hb, hml, hown, hts⟩ (m_X5_couponDay l D cI cJ cO hm mh mo my mp M mc mhol mof mdy mpd a0 x1 v5 hv5) (cwV 2 hts gX5_behind_X5_couponDay rfl rfl rfl (by decide +kernel) ⟨Nat.le_of_ble_eq_true rfl, Nat.le_of_ble_eq_true rfl⟩) ⟨pw_blind, va_recv hK hP (ci := 4) (q0 := 0) rfl rfl, fun U hU hW => ⟨rfl, pw_at hZ va_S.rf hP hK hU hW (Or.inr rfl) [0, 1, 2, 3, 4] rfl⟩⟩ rfl rfl hl.1 rfl (lv_room (Nat.le_of_ble_eq_true rfl)) dX5_behind_16 ⟨Nat.zero_le _, Nat.zero_le _⟩) ?_
        refine lv_iload_n hx hb dX5_behind_19 rfl (lv_at hl 2 rfl) ?_
        refine lv_icmp_gt (tgt := 29) hx hb dX5_behind_20 (by decide) (fun c6 => ?_) (fun c6 => ?_)
        · have hf := it hf c6
          refine lv_iload_n hx hb dX5_behind_29 rfl (lv_at hl 3 rfl) ?_
          exact W.iret hx hb hr (fun t ht _ => ⟨_, rfl, Option.some.inj hf, ht⟩) (fun q hq => absurd hq List.not_mem_nil) dX5_behind_30
        · have hf := ie hf c6
          obtain ⟨x7, ex7⟩ : ∃ y : Int32, y = x1 + 1 := ⟨_, rfl⟩
          have hf := bd_s hf ex7
          refine lv_iinc (v := x7) (lv' := [(3, .int x7), (0, .ref hm), (1, .int a0), (2, .int a1)]) hx hb dX5_behind_23 hl (k := 3) rfl (by rw [ex7]; rfl) (by decide) rfl (fun ls hl => ?_)
          refine lv_goto (tgt := 2) hx hb dX5_behind_26 (by decide) ?_
          exact ih2 x7 ls (lv_sub hl [1, 2, 3, 0] rfl) hf
  exact LP2 N 0 ls (lv_sub hl [1, 2, 3, 0] rfl) hf
def f_X5_accruedOn (N : Nat) (mof : Nat → Int32) (mdy : Nat → Int32) (a0 : Int32) (a1 : Int32) : Option Int32 :=
  (f_X5_isThere mof a0).bind fun v1 : Int32 => (if v1 = 0 then some 0 else (f_X5_own mof a0 0).bind fun v3 : Int32 => (if a1 < v3 then some 0 else (f_X5_own mof a0 1).bind fun v5 : Int32 => (if a1 < v5 then (f_X5_behind N mof mdy a0 a1).bind fun v7 : Int32 => (f_X5_own mof a0 5).bind fun v8 : Int32 => (f_X5_beginning mof mdy a0 v7).bind fun v9 : Int32 => (f_X5_interest N mof mdy a0 (10 * v8) v9 a1 v7).bind fun v10 : Int32 => some v10 else some 0)))
set_option maxHeartbeats 4000000 in
set_option maxRecDepth 100000 in
theorem m_X5_accruedOn (l : Launch) (D : va_G) (cI cJ cO : ClassId) (hm mh mo my mp : Nat) (M : Nat → Int32) (mc : Int64) (mhol mof mdy : Nat → Int32) (mpd : Nat → Int64) (a0 : Int32) (a1 : Int32) (N : Nat) (r : Int32) (hf : f_X5_accruedOn N mof mdy a0 a1 = some r) : Met l yX5_accruedOn wsX5_accruedOn ({ frames := 3, cells := 0, slots := 0, locals := 71 }) (va_Pc [.ref hm, .int a0, .int a1] (pw D (ty3 cI cJ cO) none [eM hm mh mo my mp M mc, eH cI mh mhol, eO cI mo mof, eY cI my mdy, eP cJ mp mpd])) (QSi r) 0 0 (fun _ => False) := by
  refine Met.ofW (cc := cX5_accruedOn) (maxL := 4) (ret := (some .int)) (by decide) rfl ?_
  intro p e s m args below meth c s₁ Bd hml hv
  obtain ⟨rfl, hZ, hP, hK⟩ := hv
  have hx := Bd.exec
  have hb := Bd.bytes
  have hr := Bd.returns
  have hts := atoms_spec (ws := wsX5_accruedOn) Bd.pre
  have hown : s.vm.findClass RX5 = some m.cls := findClass_of_methodNamed Bd.named
  have hlocks := Bd.notSynchronized
  have hl := lv_entry ([.ref hm, .int a0, .int a1]) (n := 4) (Nat.le_of_ble_eq_true rfl)
  rw [lg_entry_eq]
  generalize (lg_sl ([.ref hm, .int a0, .int a1]) ++ List.replicate (4 - (lg_sl ([.ref hm, .int a0, .int a1])).length) Slot.unset).toArray = ls at hl ⊢
  have hl : lv_has ls 4 [(0, .ref hm), (1, .int a0), (2, .int a1)] := hl
  unfold f_X5_accruedOn at hf
  refine lv_aload_n hx hb dX5_accruedOn_0 rfl (lv_at hl 0 rfl) ?_
  refine lv_iload_n hx hb dX5_accruedOn_1 rfl (lv_at hl 1 rfl) ?_
  obtain ⟨v1, hv1, hf⟩ := ob hf
  refine cSz (W.runV (As := [.int a0]) (rest := []) ⟨hx, hb, hml, hown, hts⟩ (m_X5_isThere l D cI cJ cO hm mh mo my mp M mc mhol mof mdy mpd a0 v1 hv1) (cwV 1 hts gX5_accruedOn_X5_isThere rfl rfl rfl (by decide +kernel) ⟨Nat.le_of_ble_eq_true rfl, Nat.le_of_ble_eq_true rfl⟩) ⟨pw_blind, va_recv hK hP (ci := 4) (q0 := 0) rfl rfl, fun U hU hW => ⟨rfl, pw_at hZ va_S.rf hP hK hU hW (Or.inr rfl) [0, 1, 2, 3, 4] rfl⟩⟩ rfl rfl hl.1 rfl (lv_room (Nat.le_of_ble_eq_true rfl)) dX5_accruedOn_2 ⟨Nat.zero_le _, Nat.zero_le _⟩) (fun zv1 => ?_)
  refine lv_if_eq (tgt := 28) hx hb dX5_accruedOn_5 (by decide) (fun c2 => ?_) (fun c2 => ?_)
  · have hf := it hf c2
    refine lv_iconst (v := 0) hx hb dX5_accruedOn_28 (by decide) ?_
    exact W.iret hx hb hr (fun t ht _ => ⟨_, rfl, Option.some.inj hf, ht⟩) (fun q hq => absurd hq List.not_mem_nil) dX5_accruedOn_29
  · have hf := ie hf c2
    refine lv_iload_n hx hb dX5_accruedOn_8 rfl (lv_at hl 2 rfl) ?_
    refine lv_aload_n hx hb dX5_accruedOn_9 rfl (lv_at hl 0 rfl) ?_
    refine lv_iload_n hx hb dX5_accruedOn_10 rfl (lv_at hl 1 rfl) ?_
    refine lv_iconst (v := 0) hx hb dX5_accruedOn_11 (by decide) ?_
    obtain ⟨v3, hv3, hf⟩ := ob hf
    refine cSi (W.runV (As := [.int a0, .int 0]) (rest := [.int a1]) ⟨hx, hb, hml, hown, hts⟩ (m_X5_own l D cI cJ cO hm mh mo my mp M mc mhol mof mdy mpd a0 0 v3 hv3) (cwV 2 hts gX5_accruedOn_X5_own rfl rfl rfl (by decide +kernel) ⟨Nat.le_of_ble_eq_true rfl, Nat.le_of_ble_eq_true rfl⟩) ⟨pw_blind, va_recv hK hP (ci := 4) (q0 := 0) rfl rfl, fun U hU hW => ⟨rfl, pw_at hZ va_S.rf hP hK hU hW (Or.inr rfl) [0, 1, 2, 3, 4] rfl⟩⟩ rfl rfl hl.1 rfl (lv_room (Nat.le_of_ble_eq_true rfl)) dX5_accruedOn_12 ⟨Nat.zero_le _, Nat.zero_le _⟩) ?_
    refine lv_icmp_lt (tgt := 28) hx hb dX5_accruedOn_15 (by decide) (fun c4 => ?_) (fun c4 => ?_)
    · have hf := it hf c4
      refine lv_iconst (v := 0) hx hb dX5_accruedOn_28 (by decide) ?_
      exact W.iret hx hb hr (fun t ht _ => ⟨_, rfl, Option.some.inj hf, ht⟩) (fun q hq => absurd hq List.not_mem_nil) dX5_accruedOn_29
    · have hf := ie hf c4
      refine lv_iload_n hx hb dX5_accruedOn_18 rfl (lv_at hl 2 rfl) ?_
      refine lv_aload_n hx hb dX5_accruedOn_19 rfl (lv_at hl 0 rfl) ?_
      refine lv_iload_n hx hb dX5_accruedOn_20 rfl (lv_at hl 1 rfl) ?_
      refine lv_iconst (v := 1) hx hb dX5_accruedOn_21 (by decide) ?_
      obtain ⟨v5, hv5, hf⟩ := ob hf
      refine cSi (W.runV (As := [.int a0, .int 1]) (rest := [.int a1]) ⟨hx, hb, hml, hown, hts⟩ (m_X5_own l D cI cJ cO hm mh mo my mp M mc mhol mof mdy mpd a0 1 v5 hv5) (cwV 2 hts gX5_accruedOn_X5_own rfl rfl rfl (by decide +kernel) ⟨Nat.le_of_ble_eq_true rfl, Nat.le_of_ble_eq_true rfl⟩) ⟨pw_blind, va_recv hK hP (ci := 4) (q0 := 0) rfl rfl, fun U hU hW => ⟨rfl, pw_at hZ va_S.rf hP hK hU hW (Or.inr rfl) [0, 1, 2, 3, 4] rfl⟩⟩ rfl rfl hl.1 rfl (lv_room (Nat.le_of_ble_eq_true rfl)) dX5_accruedOn_22 ⟨Nat.zero_le _, Nat.zero_le _⟩) ?_
      refine lv_icmp_lt (tgt := 30) hx hb dX5_accruedOn_25 (by decide) (fun c6 => ?_) (fun c6 => ?_)
      · have hf := it hf c6
        refine lv_aload_n hx hb dX5_accruedOn_30 rfl (lv_at hl 0 rfl) ?_
        refine lv_iload_n hx hb dX5_accruedOn_31 rfl (lv_at hl 1 rfl) ?_
        refine lv_iload_n hx hb dX5_accruedOn_32 rfl (lv_at hl 2 rfl) ?_
        obtain ⟨v7, hv7, hf⟩ := ob hf
        refine cSi (W.runV (As := [.int a0, .int a1]) (rest := []) ⟨hx, hb, hml, hown, hts⟩ (m_X5_behind l D cI cJ cO hm mh mo my mp M mc mhol mof mdy mpd a0 a1 N v7 hv7) (cwV 2 hts gX5_accruedOn_X5_behind rfl rfl rfl (by decide +kernel) ⟨Nat.le_of_ble_eq_true rfl, Nat.le_of_ble_eq_true rfl⟩) ⟨pw_blind, va_recv hK hP (ci := 4) (q0 := 0) rfl rfl, fun U hU hW => ⟨rfl, pw_at hZ va_S.rf hP hK hU hW (Or.inr rfl) [0, 1, 2, 3, 4] rfl⟩⟩ rfl rfl hl.1 rfl (lv_room (Nat.le_of_ble_eq_true rfl)) dX5_accruedOn_33 ⟨Nat.zero_le _, Nat.zero_le _⟩) ?_
        refine lv_istore_n (lv' := [(3, .int v7), (0, .ref hm), (1, .int a0), (2, .int a1)]) hx hb dX5_accruedOn_36 rfl hl (by decide) rfl (fun ls hl => ?_)
        refine lv_aload_n hx hb dX5_accruedOn_37 rfl (lv_at hl 1 rfl) ?_
        refine lv_iload_n hx hb dX5_accruedOn_38 rfl (lv_at hl 2 rfl) ?_
        refine lv_bipush (v := 10) hx hb dX5_accruedOn_39 (by decide) ?_
        refine lv_aload_n hx hb dX5_accruedOn_41 rfl (lv_at hl 1 rfl) ?_
        refine lv_iload_n hx hb dX5_accruedOn_42 rfl (lv_at hl 2 rfl) ?_
        refine lv_iconst (v := 5) hx hb dX5_accruedOn_43 (by decide) ?_
        obtain ⟨v8, hv8, hf⟩ := ob hf
        refine cSi (W.runV (As := [.int a0, .int 5]) (rest := [.int 10, .int a0, .ref hm]) ⟨hx, hb, hml, hown, hts⟩ (m_X5_own l D cI cJ cO hm mh mo my mp M mc mhol mof mdy mpd a0 5 v8 hv8) (cwV 2 hts gX5_accruedOn_X5_own rfl rfl rfl (by decide +kernel) ⟨Nat.le_of_ble_eq_true rfl, Nat.le_of_ble_eq_true rfl⟩) ⟨pw_blind, va_recv hK hP (ci := 4) (q0 := 0) rfl rfl, fun U hU hW => ⟨rfl, pw_at hZ va_S.rf hP hK hU hW (Or.inr rfl) [0, 1, 2, 3, 4] rfl⟩⟩ rfl rfl hl.1 rfl (lv_room (Nat.le_of_ble_eq_true rfl)) dX5_accruedOn_44 ⟨Nat.zero_le _, Nat.zero_le _⟩) ?_
        refine lv_imul hx hb dX5_accruedOn_47 ?_
        refine lv_aload_n hx hb dX5_accruedOn_48 rfl (lv_at hl 1 rfl) ?_
        refine lv_iload_n hx hb dX5_accruedOn_49 rfl (lv_at hl 2 rfl) ?_
        refine lv_iload_n hx hb dX5_accruedOn_50 rfl (lv_at hl 0 rfl) ?_
        obtain ⟨v9, hv9, hf⟩ := ob hf
        refine cSi (W.runV (As := [.int a0, .int v7]) (rest := [.int (10 * v8), .int a0, .ref hm]) ⟨hx, hb, hml, hown, hts⟩ (m_X5_beginning l D cI cJ cO hm mh mo my mp M mc mhol mof mdy mpd a0 v7 v9 hv9) (cwV 2 hts gX5_accruedOn_X5_beginning rfl rfl rfl (by decide +kernel) ⟨Nat.le_of_ble_eq_true rfl, Nat.le_of_ble_eq_true rfl⟩) ⟨pw_blind, va_recv hK hP (ci := 4) (q0 := 0) rfl rfl, fun U hU hW => ⟨rfl, pw_at hZ va_S.rf hP hK hU hW (Or.inr rfl) [0, 1, 2, 3, 4] rfl⟩⟩ rfl rfl hl.1 rfl (lv_room (Nat.le_of_ble_eq_true rfl)) dX5_accruedOn_51 ⟨Nat.zero_le _, Nat.zero_le _⟩) ?_
        refine lv_iload_n hx hb dX5_accruedOn_54 rfl (lv_at hl 3 rfl) ?_
        refine lv_iload_n hx hb dX5_accruedOn_55 rfl (lv_at hl 0 rfl) ?_
        obtain ⟨v10, hv10, hf⟩ := ob hf
        refine cSi (W.runV (As := [.int a0, .int (10 * v8), .int v9, .int a1, .int v7]) (rest := []) ⟨hx, hb, hml, hown, hts⟩ (m_X5_interest l D cI cJ cO hm mh mo my mp M mc mhol mof mdy mpd a0 (10 * v8) v9 a1 v7 N v10 hv10) (cwV 5 hts gX5_accruedOn_X5_interest rfl rfl rfl (by decide +kernel) ⟨Nat.le_of_ble_eq_true rfl, Nat.le_of_ble_eq_true rfl⟩) ⟨pw_blind, va_recv hK hP (ci := 4) (q0 := 0) rfl rfl, fun U hU hW => ⟨rfl, pw_at hZ va_S.rf hP hK hU hW (Or.inr rfl) [0, 1, 2, 3, 4] rfl⟩⟩ rfl rfl hl.1 rfl (lv_room (Nat.le_of_ble_eq_true rfl)) dX5_accruedOn_56 ⟨Nat.zero_le _, Nat.zero_le _⟩) ?_
        exact W.iret hx hb hr (fun t ht _ => ⟨_, rfl, Option.some.inj hf, ht⟩) (fun q hq => absurd hq List.not_mem_nil) dX5_accruedOn_59
      · have hf := ie hf c6
        refine lv_iconst (v := 0) hx hb dX5_accruedOn_28 (by decide) ?_
        exact W.iret hx hb hr (fun t ht _ => ⟨_, rfl, Option.some.inj hf, ht⟩) (fun q hq => absurd hq List.not_mem_nil) dX5_accruedOn_29
def f_X5_worthOn_L34 (mof : Nat → Int32) (a0 : Int32) (N : Nat) (mdy : Nat → Int32) (v1 : Int32) (a3 : Int32) (a1 : Int32) (x3 : Int64)  : Nat → Int64 → Int64 → Int32 → Int32 → Option Int64
  | 0, _, _, _, _ => none
  | n8 + 1, x4, x5, x6, x7 => (f_X5_own mof a0 6).bind fun v9 : Int32 => (if v9 ≤ x7 then some x4 else jn (fun (x12 : Int64) => (f_X5_own mof a0 6).bind fun v13 : Int32 => jn (fun (x15 : Int32) => (f_X5_coupon N mof mdy a0 x7 (10 * (x6.toInt64))).bind fun v16 : Int32 => bd (x4 + ((((v16.toInt64) + (10 * (x15.toInt64))) * x12) / 1000000000) : Int64) fun x17 : Int64 => bd (x6 - x15 : Int32) fun x18 : Int32 => bd (x7 + 1) fun x19 : Int32 => f_X5_worthOn_L34 mof a0 N mdy v1 a3 a1 x3 n8 x17 x12 x18 x19) fun K14 => (if x7 = (v13 - 1) then K14 x6 else (f_X5_isSunk mof mdy a0 x7).bind fun v21 : Int32 => (if v21 = 0 then K14 0 else (f_X5_own mof a0 11).bind fun v23 : Int32 => bd (if v23 < x6 then v23 else x6 : Int32) fun x24 : Int32 => K14 x24))) fun K11 => (if x7 = v1 then (f_X5_couponDay mdy a0 x7).bind fun v28 : Int32 => bd (3650000 + ((a3.toInt64) * ((v28 - a1).toInt64)) : Int64) fun x29 : Int64 => gd (¬ x29 = 0) (K11 (3650000000000000 / x29)) else bd (x3 + (a3.toInt64) : Int64) fun x26 : Int64 => gd (¬ x26 = 0) (K11 ((x5 * x3) / x26))))
def f_X5_worthOn (N : Nat) (mof : Nat → Int32) (mdy : Nat → Int32) (a0 : Int32) (a1 : Int32) (a2 : Int32) (a3 : Int32) : Option Int64 :=
  (f_X5_behind N mof mdy a0 a1).bind fun v1 : Int32 => (f_X5_own mof a0 3).bind fun v2 : Int32 => bd (10000 * (v2.toInt64) : Int64) fun x3 : Int64 => f_X5_worthOn_L34 mof a0 N mdy v1 a3 a1 x3 N 0 0 a2 v1
set_option maxHeartbeats 4000000 in
set_option maxRecDepth 100000 in
theorem m_X5_worthOn (l : Launch) (D : va_G) (cI cJ cO : ClassId) (hm mh mo my mp : Nat) (M : Nat → Int32) (mc : Int64) (mhol mof mdy : Nat → Int32) (mpd : Nat → Int64) (a0 : Int32) (a1 : Int32) (a2 : Int32) (a3 : Int32) (N : Nat) (r : Int64) (hf : f_X5_worthOn N mof mdy a0 a1 a2 a3 = some r) : Met l yX5_worthOn wsX5_worthOn ({ frames := 4, cells := 0, slots := 0, locals := 95 }) (va_Pc [.ref hm, .int a0, .int a1, .int a2, .int a3] (pw D (ty3 cI cJ cO) none [eM hm mh mo my mp M mc, eH cI mh mhol, eO cI mo mof, eY cI my mdy, eP cJ mp mpd])) (QSl r) 0 0 (fun _ => False) := by
  refine Met.ofW (cc := cX5_worthOn) (maxL := 15) (ret := (some .long)) (by decide) rfl ?_
  intro p e s m args below meth c s₁ Bd hml hv
  obtain ⟨rfl, hZ, hP, hK⟩ := hv
  have hx := Bd.exec
  have hb := Bd.bytes
  have hr := Bd.returns
  have hts := atoms_spec (ws := wsX5_worthOn) Bd.pre
  have hown : s.vm.findClass RX5 = some m.cls := findClass_of_methodNamed Bd.named
  have hlocks := Bd.notSynchronized
  have hl := lv_entry ([.ref hm, .int a0, .int a1, .int a2, .int a3]) (n := 15) (Nat.le_of_ble_eq_true rfl)
  rw [lg_entry_eq]
  generalize (lg_sl ([.ref hm, .int a0, .int a1, .int a2, .int a3]) ++ List.replicate (15 - (lg_sl ([.ref hm, .int a0, .int a1, .int a2, .int a3])).length) Slot.unset).toArray = ls at hl ⊢
  have hl : lv_has ls 15 [(0, .ref hm), (1, .int a0), (2, .int a1), (3, .int a2), (4, .int a3)] := hl
  unfold f_X5_worthOn at hf
  refine lv_lconst (v := 0) hx hb dX5_worthOn_0 (by decide) ?_
  refine lv_lstore (lv' := [(5, .long 0), (0, .ref hm), (1, .int a0), (2, .int a1), (3, .int a2), (4, .int a3)]) hx hb dX5_worthOn_1 hl (by decide) rfl (fun ls hl => ?_)
  refine lv_lconst (v := 0) hx hb dX5_worthOn_3 (by decide) ?_
  refine lv_lstore (lv' := [(7, .long 0), (5, .long 0), (0, .ref hm), (1, .int a0), (2, .int a1), (3, .int a2), (4, .int a3)]) hx hb dX5_worthOn_4 hl (by decide) rfl (fun ls hl => ?_)
  refine lv_iload_n hx hb dX5_worthOn_6 rfl (lv_at hl 5 rfl) ?_
  refine lv_istore (lv' := [(9, .int a2), (7, .long 0), (5, .long 0), (0, .ref hm), (1, .int a0), (2, .int a1), (3, .int a2), (4, .int a3)]) hx hb dX5_worthOn_7 hl (by decide) rfl (fun ls hl => ?_)
  refine lv_aload_n hx hb dX5_worthOn_9 rfl (lv_at hl 3 rfl) ?_
  refine lv_iload_n hx hb dX5_worthOn_10 rfl (lv_at hl 4 rfl) ?_
  refine lv_iload_n hx hb dX5_worthOn_11 rfl (lv_at hl 5 rfl) ?_
  obtain ⟨v1, hv1, hf⟩ := ob hf
  refine cSi (W.runV (As := [.int a0, .int a1]) (rest := []) ⟨hx, hb, hml, hown, hts⟩ (m_X5_behind l D cI cJ cO hm mh mo my mp M mc mhol mof mdy mpd a0 a1 N v1 hv1) (cwV 2 hts gX5_worthOn_X5_behind rfl rfl rfl (by decide +kernel) ⟨Nat.le_of_ble_eq_true rfl, Nat.le_of_ble_eq_true rfl⟩) ⟨pw_blind, va_recv hK hP (ci := 4) (q0 := 0) rfl rfl, fun U hU hW => ⟨rfl, pw_at hZ va_S.rf hP hK hU hW (Or.inr rfl) [0, 1, 2, 3, 4] rfl⟩⟩ rfl rfl hl.1 rfl (lv_room (Nat.le_of_ble_eq_true rfl)) dX5_worthOn_12 ⟨Nat.zero_le _, Nat.zero_le _⟩) ?_
  refine lv_istore (lv' := [(10, .int v1), (9, .int a2), (7, .long 0), (5, .long 0), (0, .ref hm), (1, .int a0), (2, .int a1), (3, .int a2), (4, .int a3)]) hx hb dX5_worthOn_15 hl (by decide) rfl (fun ls hl => ?_)
  refine lv_ldc2 hx hb hown (hts (.constantLong RX5 132 (10000)) (by decide +kernel)) dX5_worthOn_17 ?_
  refine lv_aload_n hx hb dX5_worthOn_20 rfl (lv_at hl 4 rfl) ?_
  refine lv_iload_n hx hb dX5_worthOn_21 rfl (lv_at hl 5 rfl) ?_
  refine lv_iconst (v := 3) hx hb dX5_worthOn_22 (by decide) ?_
  obtain ⟨v2, hv2, hf⟩ := ob hf
  refine cSi (W.runV (As := [.int a0, .int 3]) (rest := [.long 10000]) ⟨hx, hb, hml, hown, hts⟩ (m_X5_own l D cI cJ cO hm mh mo my mp M mc mhol mof mdy mpd a0 3 v2 hv2) (cwV 2 hts gX5_worthOn_X5_own rfl rfl rfl (by decide +kernel) ⟨Nat.le_of_ble_eq_true rfl, Nat.le_of_ble_eq_true rfl⟩) ⟨pw_blind, va_recv hK hP (ci := 4) (q0 := 0) rfl rfl, fun U hU hW => ⟨rfl, pw_at hZ va_S.rf hP hK hU hW (Or.inr rfl) [0, 1, 2, 3, 4] rfl⟩⟩ rfl rfl hl.1 rfl (lv_room (Nat.le_of_ble_eq_true rfl)) dX5_worthOn_23 ⟨Nat.zero_le _, Nat.zero_le _⟩) ?_
  refine lv_i2l hx hb dX5_worthOn_26 rfl ?_
  refine lv_lmul hx hb dX5_worthOn_27 ?_
  refine lv_topl (fun x3 ex3 => ?_)
  have hf := bd_s hf ex3
  refine lv_lstore (lv' := [(11, .long x3), (10, .int v1), (9, .int a2), (7, .long 0), (5, .long 0), (0, .ref hm), (1, .int a0), (2, .int a1), (3, .int a2), (4, .int a3)]) hx hb dX5_worthOn_28 hl (by decide) rfl (fun ls hl => ?_)
  refine lv_iload hx hb dX5_worthOn_30 (lv_at hl 1 rfl) ?_
  refine lv_istore (lv' := [(13, .int v1), (11, .long x3), (10, .int v1), (9, .int a2), (7, .long 0), (5, .long 0), (0, .ref hm), (1, .int a0), (2, .int a1), (3, .int a2), (4, .int a3)]) hx hb dX5_worthOn_32 hl (by decide) rfl (fun ls hl => ?_)
  have LP34 : ∀ (n8 : Nat) (x4 : Int64) (x5 : Int64) (x6 : Int32) (x7 : Int32) (ls : Array Slot), lv_has ls 15 [(0, .ref hm), (1, .int a0), (2, .int a1), (4, .int a3), (5, .long x4), (7, .long x5), (9, .int x6), (10, .int v1), (11, .long x3), (13, .int x7)] → f_X5_worthOn_L34 mof a0 N mdy v1 a3 a1 x3 n8 x4 x5 x6 x7 = some r → W p l e (headSpec wsX5_worthOn ({ frames := 4, cells := 0, slots := 0, locals := 95 })).room s m ([.ref hm, .int a0, .int a1, .int a2, .int a3] : List Value).toArray below meth c s.heap [] 0 0 (MQ below (QSl r) ([.ref hm, .int a0, .int a1, .int a2, .int a3] : List Value).toArray s 0 0 (fun _ => False)) (F0 m 34 ls []) := by
    intro n8
    induction n8 with
    | zero => intro x4 x5 x6 x7 ls hl hf; exact (no_s hf).elim
    | succ n8 ih8 =>
      intro x4 x5 x6 x7 ls hl hf
      rw [f_X5_worthOn_L34] at hf
      refine lv_iload hx hb dX5_worthOn_34 (lv_at hl 9 rfl) ?_
      refine lv_aload_n hx hb dX5_worthOn_36 rfl (lv_at hl 0 rfl) ?_
      refine lv_iload_n hx hb dX5_worthOn_37 rfl (lv_at hl 1 rfl) ?_
      refine lv_bipush (v := 6) hx hb dX5_worthOn_38 (by decide) ?_
      obtain ⟨v9, hv9, hf⟩ := ob hf
      refine cSi (W.runV (As := [.int a0, .int 6]) (rest := [.int x7]) ⟨hx, hb, hml, hown, hts⟩ (m_X5_own l D cI cJ cO hm mh mo my mp M mc mhol mof mdy mpd a0 6 v9 hv9) (cwV 2 hts gX5_worthOn_X5_own rfl rfl rfl (by decide +kernel) ⟨Nat.le_of_ble_eq_true rfl, Nat.le_of_ble_eq_true rfl⟩) ⟨pw_blind, va_recv hK hP (ci := 4) (q0 := 0) rfl rfl, fun U hU hW => ⟨rfl, pw_at hZ va_S.rf hP hK hU hW (Or.inr rfl) [0, 1, 2, 3, 4] rfl⟩⟩ rfl rfl hl.1 rfl (lv_room (Nat.le_of_ble_eq_true rfl)) dX5_worthOn_40 ⟨Nat.zero_le _, Nat.zero_le _⟩) ?_
      refine lv_icmp_ge (tgt := 187) hx hb dX5_worthOn_43 (by decide) (fun c10 => ?_) (fun c10 => ?_)
      · have hf := it hf c10
        refine lv_lload hx hb dX5_worthOn_187 (lv_at hl 4 rfl) ?_
        exact W.lret hx hb hr (fun t ht _ => ⟨_, rfl, Option.some.inj hf, ht⟩) (fun q hq => absurd hq List.not_mem_nil) dX5_worthOn_189
      · have hf := ie hf c10
        refine lv_iload hx hb dX5_worthOn_46 (lv_at hl 9 rfl) ?_
        refine lv_iload hx hb dX5_worthOn_48 (lv_at hl 7 rfl) ?_
        obtain ⟨K11, hK11, hf⟩ := jn_s hf
        have JK11 : ∀ (x12 : Int64) (ls : Array Slot), lv_has ls 15 [(0, .ref hm), (1, .int a0), (2, .int a1), (4, .int a3), (5, .long x4), (9, .int x6), (10, .int v1), (11, .long x3), (13, .int x7)] → K11 x12 = some r → W p l e (headSpec wsX5_worthOn ({ frames := 4, cells := 0, slots := 0, locals := 95 })).room s m ([.ref hm, .int a0, .int a1, .int a2, .int a3] : List Value).toArray below meth c s.heap [] 0 0 (MQ below (QSl r) ([.ref hm, .int a0, .int a1, .int a2, .int a3] : List Value).toArray s 0 0 (fun _ => False)) (F0 m 90 ls [.long x12]) := by
          intro x12 ls hl hf
          rw [hK11] at hf
          refine lv_lstore (lv' := [(7, .long x12), (0, .ref hm), (1, .int a0), (2, .int a1), (4, .int a3), (5, .long x4), (9, .int x6), (10, .int v1), (11, .long x3), (13, .int x7)]) hx hb dX5_worthOn_90 hl (by decide) rfl (fun ls hl => ?_)
          refine lv_iload hx hb dX5_worthOn_92 (lv_at hl 9 rfl) ?_
          refine lv_aload_n hx hb dX5_worthOn_94 rfl (lv_at hl 1 rfl) ?_
          refine lv_iload_n hx hb dX5_worthOn_95 rfl (lv_at hl 2 rfl) ?_
          refine lv_bipush (v := 6) hx hb dX5_worthOn_96 (by decide) ?_
          obtain ⟨v13, hv13, hf⟩ := ob hf
          refine cSi (W.runV (As := [.int a0, .int 6]) (rest := [.int x7]) ⟨hx, hb, hml, hown, hts⟩ (m_X5_own l D cI cJ cO hm mh mo my mp M mc mhol mof mdy mpd a0 6 v13 hv13) (cwV 2 hts gX5_worthOn_X5_own rfl rfl rfl (by decide +kernel) ⟨Nat.le_of_ble_eq_true rfl, Nat.le_of_ble_eq_true rfl⟩) ⟨pw_blind, va_recv hK hP (ci := 4) (q0 := 0) rfl rfl, fun U hU hW => ⟨rfl, pw_at hZ va_S.rf hP hK hU hW (Or.inr rfl) [0, 1, 2, 3, 4] rfl⟩⟩ rfl rfl hl.1 rfl (lv_room (Nat.le_of_ble_eq_true rfl)) dX5_worthOn_98 ⟨Nat.zero_le _, Nat.zero_le _⟩) ?_
          refine lv_iconst (v := 1) hx hb dX5_worthOn_101 (by decide) ?_
          refine lv_isub hx hb dX5_worthOn_102 ?_
          obtain ⟨K14, hK14, hf⟩ := jn_s hf
          have JK14 : ∀ (x15 : Int32) (ls : Array Slot), lv_has ls 15 [(0, .ref hm), (1, .int a0), (2, .int a1), (4, .int a3), (5, .long x4), (7, .long x12), (9, .int x6), (10, .int v1), (11, .long x3), (13, .int x7)] → K14 x15 = some r → W p l e (headSpec wsX5_worthOn ({ frames := 4, cells := 0, slots := 0, locals := 95 })).room s m ([.ref hm, .int a0, .int a1, .int a2, .int a3] : List Value).toArray below meth c s.heap [] 0 0 (MQ below (QSl r) ([.ref hm, .int a0, .int a1, .int a2, .int a3] : List Value).toArray s 0 0 (fun _ => False)) (F0 m 137 ls [.int x15]) := by
            intro x15 ls hl hf
            rw [hK14] at hf
            refine lv_istore (lv' := [(14, .int x15), (0, .ref hm), (1, .int a0), (2, .int a1), (4, .int a3), (5, .long x4), (7, .long x12), (9, .int x6), (10, .int v1), (11, .long x3), (13, .int x7)]) hx hb dX5_worthOn_137 hl (by decide) rfl (fun ls hl => ?_)
            refine lv_lload hx hb dX5_worthOn_139 (lv_at hl 5 rfl) ?_
            refine lv_aload_n hx hb dX5_worthOn_141 rfl (lv_at hl 1 rfl) ?_
            refine lv_iload_n hx hb dX5_worthOn_142 rfl (lv_at hl 2 rfl) ?_
            refine lv_iload hx hb dX5_worthOn_143 (lv_at hl 10 rfl) ?_
            refine lv_ldc2 hx hb hown (hts (.constantLong RX5 159 (10)) (by decide +kernel)) dX5_worthOn_145 ?_
            refine lv_iload hx hb dX5_worthOn_148 (lv_at hl 7 rfl) ?_
            refine lv_i2l hx hb dX5_worthOn_150 rfl ?_
            refine lv_lmul hx hb dX5_worthOn_151 ?_
            obtain ⟨v16, hv16, hf⟩ := ob hf
            refine cSi (W.runV (As := [.int a0, .int x7, .long (10 * (x6.toInt64))]) (rest := [.long x4]) ⟨hx, hb, hml, hown, hts⟩ (m_X5_coupon l D cI cJ cO hm mh mo my mp M mc mhol mof mdy mpd a0 x7 (10 * (x6.toInt64)) N v16 hv16) (cwV 3 hts gX5_worthOn_X5_coupon rfl rfl rfl (by decide +kernel) ⟨Nat.le_of_ble_eq_true rfl, Nat.le_of_ble_eq_true rfl⟩) ⟨pw_blind, va_recv hK hP (ci := 4) (q0 := 0) rfl rfl, fun U hU hW => ⟨rfl, pw_at hZ va_S.rf hP hK hU hW (Or.inr rfl) [0, 1, 2, 3, 4] rfl⟩⟩ rfl rfl hl.1 rfl (lv_room (Nat.le_of_ble_eq_true rfl)) dX5_worthOn_152 ⟨Nat.zero_le _, Nat.zero_le _⟩) ?_
            refine lv_i2l hx hb dX5_worthOn_155 rfl ?_
            refine lv_ldc2 hx hb hown (hts (.constantLong RX5 159 (10)) (by decide +kernel)) dX5_worthOn_156 ?_
            refine lv_iload hx hb dX5_worthOn_159 (lv_at hl 0 rfl) ?_
            refine lv_i2l hx hb dX5_worthOn_161 rfl ?_
            refine lv_lmul hx hb dX5_worthOn_162 ?_
            refine lv_ladd hx hb dX5_worthOn_163 ?_
            refine lv_lload hx hb dX5_worthOn_164 (lv_at hl 6 rfl) ?_
            refine lv_lmul hx hb dX5_worthOn_166 ?_
            refine lv_ldc2 hx hb hown (hts (.constantLong RX5 161 (1000000000)) (by decide +kernel)) dX5_worthOn_167 ?_
            refine lv_ldiv hx hb dX5_worthOn_170 (by decide) ?_
            refine lv_ladd hx hb dX5_worthOn_171 ?_
            refine lv_topl (fun x17 ex17 => ?_)
            have hf := bd_s hf ex17
            refine lv_lstore (lv' := [(5, .long x17), (14, .int x15), (0, .ref hm), (1, .int a0), (2, .int a1), (4, .int a3), (7, .long x12), (9, .int x6), (10, .int v1), (11, .long x3), (13, .int x7)]) hx hb dX5_worthOn_172 hl (by decide) rfl (fun ls hl => ?_)
            refine lv_iload hx hb dX5_worthOn_174 (lv_at hl 7 rfl) ?_
            refine lv_iload hx hb dX5_worthOn_176 (lv_at hl 1 rfl) ?_
            refine lv_isub hx hb dX5_worthOn_178 ?_
            refine lv_topi (fun x18 ex18 => ?_)
            have hf := bd_s hf ex18
            refine lv_istore (lv' := [(9, .int x18), (5, .long x17), (14, .int x15), (0, .ref hm), (1, .int a0), (2, .int a1), (4, .int a3), (7, .long x12), (10, .int v1), (11, .long x3), (13, .int x7)]) hx hb dX5_worthOn_179 hl (by decide) rfl (fun ls hl => ?_)
            obtain ⟨x19, ex19⟩ : ∃ y : Int32, y = x7 + 1 := ⟨_, rfl⟩
            have hf := bd_s hf ex19
            refine lv_iinc (v := x19) (lv' := [(13, .int x19), (9, .int x18), (5, .long x17), (14, .int x15), (0, .ref hm), (1, .int a0), (2, .int a1), (4, .int a3), (7, .long x12), (10, .int v1), (11, .long x3)]) hx hb dX5_worthOn_181 hl (k := 10) rfl (by rw [ex19]; rfl) (by decide) rfl (fun ls hl => ?_)
            refine lv_goto (tgt := 34) hx hb dX5_worthOn_184 (by decide) ?_
            exact ih8 x17 x12 x18 x19 ls (lv_sub hl [4, 5, 6, 7, 2, 8, 1, 9, 10, 0] rfl) hf
          refine lv_icmp_ne (tgt := 111) hx hb dX5_worthOn_103 (by decide) (fun c20 => ?_) (fun c20 => ?_)
          · have hf := ie hf c20
            refine lv_aload_n hx hb dX5_worthOn_111 rfl (lv_at hl 1 rfl) ?_
            refine lv_iload_n hx hb dX5_worthOn_112 rfl (lv_at hl 2 rfl) ?_
            refine lv_iload hx hb dX5_worthOn_113 (lv_at hl 9 rfl) ?_
            obtain ⟨v21, hv21, hf⟩ := ob hf
            refine cSz (W.runV (As := [.int a0, .int x7]) (rest := []) ⟨hx, hb, hml, hown, hts⟩ (m_X5_isSunk l D cI cJ cO hm mh mo my mp M mc mhol mof mdy mpd a0 x7 v21 hv21) (cwV 2 hts gX5_worthOn_X5_isSunk rfl rfl rfl (by decide +kernel) ⟨Nat.le_of_ble_eq_true rfl, Nat.le_of_ble_eq_true rfl⟩) ⟨pw_blind, va_recv hK hP (ci := 4) (q0 := 0) rfl rfl, fun U hU hW => ⟨rfl, pw_at hZ va_S.rf hP hK hU hW (Or.inr rfl) [0, 1, 2, 3, 4] rfl⟩⟩ rfl rfl hl.1 rfl (lv_room (Nat.le_of_ble_eq_true rfl)) dX5_worthOn_115 ⟨Nat.zero_le _, Nat.zero_le _⟩) (fun zv21 => ?_)
            refine lv_if_eq (tgt := 136) hx hb dX5_worthOn_118 (by decide) (fun c22 => ?_) (fun c22 => ?_)
            · have hf := it hf c22
              refine lv_iconst (v := 0) hx hb dX5_worthOn_136 (by decide) ?_
              exact JK14 0 ls (lv_sub hl [1, 2, 3, 4, 5, 0, 6, 7, 8, 9] rfl) hf
            · have hf := ie hf c22
              refine lv_iload hx hb dX5_worthOn_121 (lv_at hl 6 rfl) ?_
              refine lv_aload_n hx hb dX5_worthOn_123 rfl (lv_at hl 1 rfl) ?_
              refine lv_iload_n hx hb dX5_worthOn_124 rfl (lv_at hl 2 rfl) ?_
              refine lv_bipush (v := 11) hx hb dX5_worthOn_125 (by decide) ?_
              obtain ⟨v23, hv23, hf⟩ := ob hf
              refine cSi (W.runV (As := [.int a0, .int 11]) (rest := [.int x6]) ⟨hx, hb, hml, hown, hts⟩ (m_X5_own l D cI cJ cO hm mh mo my mp M mc mhol mof mdy mpd a0 11 v23 hv23) (cwV 2 hts gX5_worthOn_X5_own rfl rfl rfl (by decide +kernel) ⟨Nat.le_of_ble_eq_true rfl, Nat.le_of_ble_eq_true rfl⟩) ⟨pw_blind, va_recv hK hP (ci := 4) (q0 := 0) rfl rfl, fun U hU hW => ⟨rfl, pw_at hZ va_S.rf hP hK hU hW (Or.inr rfl) [0, 1, 2, 3, 4] rfl⟩⟩ rfl rfl hl.1 rfl (lv_room (Nat.le_of_ble_eq_true rfl)) dX5_worthOn_127 ⟨Nat.zero_le _, Nat.zero_le _⟩) ?_
              refine va_mmin hx hb (hml.trans hl.1.symm) hown (hts (.methodLink RX5 80 Lib.Math.min.name) (by decide +kernel)) (hts (.static Lib.Math.min.name) (by decide +kernel)) (hts (.initialized "java/lang/Math") (by decide +kernel)) (hts (.code Lib.Math.min.name Lib.Math.min.code 2 (some .int)) (by decide +kernel)) (Nat.le_of_ble_eq_true rfl) (Nat.le_of_ble_eq_true rfl) (Nat.zero_le _) (Nat.zero_le _) dX5_worthOn_130 ?_
              refine lv_topi (fun x24 ex24 => ?_)
              have hf := bd_s hf ex24
              refine lv_goto (tgt := 137) hx hb dX5_worthOn_133 (by decide) ?_
              exact JK14 x24 ls (lv_sub hl [1, 2, 3, 4, 5, 0, 6, 7, 8, 9] rfl) hf
          · have hf := it hf c20
            refine lv_iload hx hb dX5_worthOn_106 (lv_at hl 6 rfl) ?_
            refine lv_goto (tgt := 137) hx hb dX5_worthOn_108 (by decide) ?_
            exact JK14 x6 ls (lv_sub hl [1, 2, 3, 4, 5, 0, 6, 7, 8, 9] rfl) hf
        refine lv_icmp_ne (tgt := 78) hx hb dX5_worthOn_50 (by decide) (fun c25 => ?_) (fun c25 => ?_)
        · have hf := ie hf c25
          refine lv_lload hx hb dX5_worthOn_78 (lv_at hl 5 rfl) ?_
          refine lv_lload hx hb dX5_worthOn_80 (lv_at hl 8 rfl) ?_
          refine lv_lmul hx hb dX5_worthOn_82 ?_
          refine lv_lload hx hb dX5_worthOn_83 (lv_at hl 8 rfl) ?_
          refine lv_iload hx hb dX5_worthOn_85 (lv_at hl 3 rfl) ?_
          refine lv_i2l hx hb dX5_worthOn_87 rfl ?_
          refine lv_ladd hx hb dX5_worthOn_88 ?_
          refine lv_topl (fun x26 ex26 => ?_)
          have hf := bd_s hf ex26
          obtain ⟨c27, hf⟩ := gd_s hf
          refine lv_ldiv hx hb dX5_worthOn_89 c27 ?_
          exact JK11 ((x5 * x3) / x26) ls (lv_sub hl [0, 1, 2, 3, 4, 6, 7, 8, 9] rfl) hf
        · have hf := it hf c25
          refine lv_ldc2 hx hb hown (hts (.constantLong RX5 157 (3650000000000000)) (by decide +kernel)) dX5_worthOn_53 ?_
          refine lv_ldc2 hx hb hown (hts (.constantLong RX5 130 (3650000)) (by decide +kernel)) dX5_worthOn_56 ?_
          refine lv_iload hx hb dX5_worthOn_59 (lv_at hl 3 rfl) ?_
          refine lv_i2l hx hb dX5_worthOn_61 rfl ?_
          refine lv_aload_n hx hb dX5_worthOn_62 rfl (lv_at hl 0 rfl) ?_
          refine lv_iload_n hx hb dX5_worthOn_63 rfl (lv_at hl 1 rfl) ?_
          refine lv_iload hx hb dX5_worthOn_64 (lv_at hl 9 rfl) ?_
          obtain ⟨v28, hv28, hf⟩ := ob hf
          refine cSi (W.runV (As := [.int a0, .int x7]) (rest := [.long (a3.toInt64), .long 3650000, .long 3650000000000000]) ⟨hx, hb, hml, hown, hts⟩ (m_X5_couponDay l D cI cJ cO hm mh mo my mp M mc mhol mof mdy mpd a0 x7 v28 hv28) (cwV 2 hts gX5_worthOn_X5_couponDay rfl rfl rfl (by decide +kernel) ⟨Nat.le_of_ble_eq_true rfl, Nat.le_of_ble_eq_true rfl⟩) ⟨pw_blind, va_recv hK hP (ci := 4) (q0 := 0) rfl rfl, fun U hU hW => ⟨rfl, pw_at hZ va_S.rf hP hK hU hW (Or.inr rfl) [0, 1, 2, 3, 4] rfl⟩⟩ rfl rfl hl.1 rfl (lv_room (Nat.le_of_ble_eq_true rfl)) dX5_worthOn_66 ⟨Nat.zero_le _, Nat.zero_le _⟩) ?_
          refine lv_iload_n hx hb dX5_worthOn_69 rfl (lv_at hl 2 rfl) ?_
          refine lv_isub hx hb dX5_worthOn_70 ?_
          refine lv_i2l hx hb dX5_worthOn_71 rfl ?_
          refine lv_lmul hx hb dX5_worthOn_72 ?_
          refine lv_ladd hx hb dX5_worthOn_73 ?_
          refine lv_topl (fun x29 ex29 => ?_)
          have hf := bd_s hf ex29
          obtain ⟨c30, hf⟩ := gd_s hf
          refine lv_ldiv hx hb dX5_worthOn_74 c30 ?_
          refine lv_goto (tgt := 90) hx hb dX5_worthOn_75 (by decide) ?_
          exact JK11 (3650000000000000 / x29) ls (lv_sub hl [0, 1, 2, 3, 4, 6, 7, 8, 9] rfl) hf
  exact LP34 N 0 0 a2 v1 ls (lv_sub hl [6, 7, 8, 10, 5, 4, 3, 2, 1, 0] rfl) hf
def f_X5_worthNow (N : Nat) (M : Nat → Int32) (mof : Nat → Int32) (mdy : Nat → Int32) (a0 : Int32) (a1 : Int32) : Option Int64 :=
  (f_X5_isThere mof a0).bind fun v1 : Int32 => (if v1 = 0 then some 0 else (f_X5_own mof a0 5).bind fun v3 : Int32 => (f_X5_worthOn N mof mdy a0 (M 1) v3 a1).bind fun v4 : Int64 => some v4)
theorem inX5_worthNow_X5 : ∀ w ∈ wsX50, w ∈ wsX5_worthNow := by decide +kernel
set_option maxHeartbeats 4000000 in
set_option maxRecDepth 100000 in
theorem m_X5_worthNow (l : Launch) (D : va_G) (cI cJ cO : ClassId) (hm mh mo my mp : Nat) (M : Nat → Int32) (mc : Int64) (mhol mof mdy : Nat → Int32) (mpd : Nat → Int64) (a0 : Int32) (a1 : Int32) (N : Nat) (r : Int64) (hf : f_X5_worthNow N M mof mdy a0 a1 = some r) : Met l yX5_worthNow wsX5_worthNow ({ frames := 5, cells := 0, slots := 0, locals := 129 }) (va_Pc [.ref hm, .int a0, .int a1] (pw D (ty3 cI cJ cO) none [eM hm mh mo my mp M mc, eH cI mh mhol, eO cI mo mof, eY cI my mdy, eP cJ mp mpd])) (QSl r) 0 0 (fun _ => False) := by
  refine Met.ofW (cc := cX5_worthNow) (maxL := 3) (ret := (some .long)) (by decide) rfl ?_
  intro p e s m args below meth c s₁ Bd hml hv
  obtain ⟨rfl, hZ, hP, hK⟩ := hv
  have hx := Bd.exec
  have hb := Bd.bytes
  have hr := Bd.returns
  have hts := atoms_spec (ws := wsX5_worthNow) Bd.pre
  have hown : s.vm.findClass RX5 = some m.cls := findClass_of_methodNamed Bd.named
  have hlocks := Bd.notSynchronized
  have hl := lv_entry ([.ref hm, .int a0, .int a1]) (n := 3) (Nat.le_of_ble_eq_true rfl)
  rw [lg_entry_eq]
  generalize (lg_sl ([.ref hm, .int a0, .int a1]) ++ List.replicate (3 - (lg_sl ([.ref hm, .int a0, .int a1])).length) Slot.unset).toArray = ls at hl ⊢
  have hl : lv_has ls 3 [(0, .ref hm), (1, .int a0), (2, .int a1)] := hl
  unfold f_X5_worthNow at hf
  refine lv_aload_n hx hb dX5_worthNow_0 rfl (lv_at hl 0 rfl) ?_
  refine lv_iload_n hx hb dX5_worthNow_1 rfl (lv_at hl 1 rfl) ?_
  obtain ⟨v1, hv1, hf⟩ := ob hf
  refine cSz (W.runV (As := [.int a0]) (rest := []) ⟨hx, hb, hml, hown, hts⟩ (m_X5_isThere l D cI cJ cO hm mh mo my mp M mc mhol mof mdy mpd a0 v1 hv1) (cwV 1 hts gX5_worthNow_X5_isThere rfl rfl rfl (by decide +kernel) ⟨Nat.le_of_ble_eq_true rfl, Nat.le_of_ble_eq_true rfl⟩) ⟨pw_blind, va_recv hK hP (ci := 4) (q0 := 0) rfl rfl, fun U hU hW => ⟨rfl, pw_at hZ va_S.rf hP hK hU hW (Or.inr rfl) [0, 1, 2, 3, 4] rfl⟩⟩ rfl rfl hl.1 rfl (lv_room (Nat.le_of_ble_eq_true rfl)) dX5_worthNow_2 ⟨Nat.zero_le _, Nat.zero_le _⟩) (fun zv1 => ?_)
  refine lv_if_eq (tgt := 27) hx hb dX5_worthNow_5 (by decide) (fun c2 => ?_) (fun c2 => ?_)
  · have hf := it hf c2
    refine lv_lconst (v := 0) hx hb dX5_worthNow_27 (by decide) ?_
    exact W.lret hx hb hr (fun t ht _ => ⟨_, rfl, Option.some.inj hf, ht⟩) (fun q hq => absurd hq List.not_mem_nil) dX5_worthNow_28
  · have hf := ie hf c2
    refine lv_aload_n hx hb dX5_worthNow_8 rfl (lv_at hl 0 rfl) ?_
    refine lv_iload_n hx hb dX5_worthNow_9 rfl (lv_at hl 1 rfl) ?_
    refine lv_aload_n hx hb dX5_worthNow_10 rfl (lv_at hl 0 rfl) ?_
    refine va_get (D := D) (ci := 4) (v := .int (M 1)) (C := RX5) (T := TX5) (N := 10) hx hb hts inX5_worthNow_X5 hown hK hP 0 rfl rfl 1 (by decide) (hts (.fieldLink RX5 14 "BondDeskModel" "today" "I") (by decide +kernel)) (fun _ h9 => h9) rfl dX5_worthNow_11 ?_
    refine lv_aload_n hx hb dX5_worthNow_14 rfl (lv_at hl 0 rfl) ?_
    refine lv_iload_n hx hb dX5_worthNow_15 rfl (lv_at hl 1 rfl) ?_
    refine lv_iconst (v := 5) hx hb dX5_worthNow_16 (by decide) ?_
    obtain ⟨v3, hv3, hf⟩ := ob hf
    refine cSi (W.runV (As := [.int a0, .int 5]) (rest := [.int (M 1), .int a0, .ref hm]) ⟨hx, hb, hml, hown, hts⟩ (m_X5_own l D cI cJ cO hm mh mo my mp M mc mhol mof mdy mpd a0 5 v3 hv3) (cwV 2 hts gX5_worthNow_X5_own rfl rfl rfl (by decide +kernel) ⟨Nat.le_of_ble_eq_true rfl, Nat.le_of_ble_eq_true rfl⟩) ⟨pw_blind, va_recv hK hP (ci := 4) (q0 := 0) rfl rfl, fun U hU hW => ⟨rfl, pw_at hZ va_S.rf hP hK hU hW (Or.inr rfl) [0, 1, 2, 3, 4] rfl⟩⟩ rfl rfl hl.1 rfl (lv_room (Nat.le_of_ble_eq_true rfl)) dX5_worthNow_17 ⟨Nat.zero_le _, Nat.zero_le _⟩) ?_
    refine lv_iload_n hx hb dX5_worthNow_20 rfl (lv_at hl 2 rfl) ?_
    obtain ⟨v4, hv4, hf⟩ := ob hf
    refine cSl (W.runV (As := [.int a0, .int (M 1), .int v3, .int a1]) (rest := []) ⟨hx, hb, hml, hown, hts⟩ (m_X5_worthOn l D cI cJ cO hm mh mo my mp M mc mhol mof mdy mpd a0 (M 1) v3 a1 N v4 hv4) (cwV 4 hts gX5_worthNow_X5_worthOn rfl rfl rfl (by decide +kernel) ⟨Nat.le_of_ble_eq_true rfl, Nat.le_of_ble_eq_true rfl⟩) ⟨pw_blind, va_recv hK hP (ci := 4) (q0 := 0) rfl rfl, fun U hU hW => ⟨rfl, pw_at hZ va_S.rf hP hK hU hW (Or.inr rfl) [0, 1, 2, 3, 4] rfl⟩⟩ rfl rfl hl.1 rfl (lv_room (Nat.le_of_ble_eq_true rfl)) dX5_worthNow_21 ⟨Nat.zero_le _, Nat.zero_le _⟩) ?_
    refine lv_goto (tgt := 28) hx hb dX5_worthNow_24 (by decide) ?_
    exact W.lret hx hb hr (fun t ht _ => ⟨_, rfl, Option.some.inj hf, ht⟩) (fun q hq => absurd hq List.not_mem_nil) dX5_worthNow_28
def f_X5_fullPrice (N : Nat) (M : Nat → Int32) (mof : Nat → Int32) (mdy : Nat → Int32) (a0 : Int32) (a1 : Int32) : Option Int64 :=
  (f_X5_own mof a0 5).bind fun v1 : Int32 => (f_X5_accruedOn N mof mdy a0 (M 1)).bind fun v2 : Int32 => some ((((10 * (v1.toInt64)) * (a1.toInt64)) / 10000) + (v2.toInt64))
theorem inX5_fullPrice_X5 : ∀ w ∈ wsX50, w ∈ wsX5_fullPrice := by decide +kernel
set_option maxHeartbeats 4000000 in
set_option maxRecDepth 100000 in
theorem m_X5_fullPrice (l : Launch) (D : va_G) (cI cJ cO : ClassId) (hm mh mo my mp : Nat) (M : Nat → Int32) (mc : Int64) (mhol mof mdy : Nat → Int32) (mpd : Nat → Int64) (a0 : Int32) (a1 : Int32) (N : Nat) (r : Int64) (hf : f_X5_fullPrice N M mof mdy a0 a1 = some r) : Met l yX5_fullPrice wsX5_fullPrice ({ frames := 4, cells := 0, slots := 0, locals := 94 }) (va_Pc [.ref hm, .int a0, .int a1] (pw D (ty3 cI cJ cO) none [eM hm mh mo my mp M mc, eH cI mh mhol, eO cI mo mof, eY cI my mdy, eP cJ mp mpd])) (QSl r) 0 0 (fun _ => False) := by
  refine Met.ofW (cc := cX5_fullPrice) (maxL := 3) (ret := (some .long)) (by decide) rfl ?_
  intro p e s m args below meth c s₁ Bd hml hv
  obtain ⟨rfl, hZ, hP, hK⟩ := hv
  have hx := Bd.exec
  have hb := Bd.bytes
  have hr := Bd.returns
  have hts := atoms_spec (ws := wsX5_fullPrice) Bd.pre
  have hown : s.vm.findClass RX5 = some m.cls := findClass_of_methodNamed Bd.named
  have hlocks := Bd.notSynchronized
  have hl := lv_entry ([.ref hm, .int a0, .int a1]) (n := 3) (Nat.le_of_ble_eq_true rfl)
  rw [lg_entry_eq]
  generalize (lg_sl ([.ref hm, .int a0, .int a1]) ++ List.replicate (3 - (lg_sl ([.ref hm, .int a0, .int a1])).length) Slot.unset).toArray = ls at hl ⊢
  have hl : lv_has ls 3 [(0, .ref hm), (1, .int a0), (2, .int a1)] := hl
  unfold f_X5_fullPrice at hf
  refine lv_ldc2 hx hb hown (hts (.constantLong RX5 159 (10)) (by decide +kernel)) dX5_fullPrice_0 ?_
  refine lv_aload_n hx hb dX5_fullPrice_3 rfl (lv_at hl 0 rfl) ?_
  refine lv_iload_n hx hb dX5_fullPrice_4 rfl (lv_at hl 1 rfl) ?_
  refine lv_iconst (v := 5) hx hb dX5_fullPrice_5 (by decide) ?_
  obtain ⟨v1, hv1, hf⟩ := ob hf
  refine cSi (W.runV (As := [.int a0, .int 5]) (rest := [.long 10]) ⟨hx, hb, hml, hown, hts⟩ (m_X5_own l D cI cJ cO hm mh mo my mp M mc mhol mof mdy mpd a0 5 v1 hv1) (cwV 2 hts gX5_fullPrice_X5_own rfl rfl rfl (by decide +kernel) ⟨Nat.le_of_ble_eq_true rfl, Nat.le_of_ble_eq_true rfl⟩) ⟨pw_blind, va_recv hK hP (ci := 4) (q0 := 0) rfl rfl, fun U hU hW => ⟨rfl, pw_at hZ va_S.rf hP hK hU hW (Or.inr rfl) [0, 1, 2, 3, 4] rfl⟩⟩ rfl rfl hl.1 rfl (lv_room (Nat.le_of_ble_eq_true rfl)) dX5_fullPrice_6 ⟨Nat.zero_le _, Nat.zero_le _⟩) ?_
  refine lv_i2l hx hb dX5_fullPrice_9 rfl ?_
  refine lv_lmul hx hb dX5_fullPrice_10 ?_
  refine lv_iload_n hx hb dX5_fullPrice_11 rfl (lv_at hl 2 rfl) ?_
  refine lv_i2l hx hb dX5_fullPrice_12 rfl ?_
  refine lv_lmul hx hb dX5_fullPrice_13 ?_
  refine lv_ldc2 hx hb hown (hts (.constantLong RX5 132 (10000)) (by decide +kernel)) dX5_fullPrice_14 ?_
  refine lv_ldiv hx hb dX5_fullPrice_17 (by decide) ?_
  refine lv_aload_n hx hb dX5_fullPrice_18 rfl (lv_at hl 0 rfl) ?_
  refine lv_iload_n hx hb dX5_fullPrice_19 rfl (lv_at hl 1 rfl) ?_
  refine lv_aload_n hx hb dX5_fullPrice_20 rfl (lv_at hl 0 rfl) ?_
  refine va_get (D := D) (ci := 4) (v := .int (M 1)) (C := RX5) (T := TX5) (N := 10) hx hb hts inX5_fullPrice_X5 hown hK hP 0 rfl rfl 1 (by decide) (hts (.fieldLink RX5 14 "BondDeskModel" "today" "I") (by decide +kernel)) (fun _ h9 => h9) rfl dX5_fullPrice_21 ?_
  obtain ⟨v2, hv2, hf⟩ := ob hf
  refine cSi (W.runV (As := [.int a0, .int (M 1)]) (rest := [.long (((10 * (v1.toInt64)) * (a1.toInt64)) / 10000)]) ⟨hx, hb, hml, hown, hts⟩ (m_X5_accruedOn l D cI cJ cO hm mh mo my mp M mc mhol mof mdy mpd a0 (M 1) N v2 hv2) (cwV 2 hts gX5_fullPrice_X5_accruedOn rfl rfl rfl (by decide +kernel) ⟨Nat.le_of_ble_eq_true rfl, Nat.le_of_ble_eq_true rfl⟩) ⟨pw_blind, va_recv hK hP (ci := 4) (q0 := 0) rfl rfl, fun U hU hW => ⟨rfl, pw_at hZ va_S.rf hP hK hU hW (Or.inr rfl) [0, 1, 2, 3, 4] rfl⟩⟩ rfl rfl hl.1 rfl (lv_room (Nat.le_of_ble_eq_true rfl)) dX5_fullPrice_24 ⟨Nat.zero_le _, Nat.zero_le _⟩) ?_
  refine lv_i2l hx hb dX5_fullPrice_27 rfl ?_
  refine lv_ladd hx hb dX5_fullPrice_28 ?_
  exact W.lret hx hb hr (fun t ht _ => ⟨_, rfl, Option.some.inj hf, ht⟩) (fun q hq => absurd hq List.not_mem_nil) dX5_fullPrice_29
def f_X5_yielded_L25 (N : Nat) (M : Nat → Int32) (mof : Nat → Int32) (mdy : Nat → Int32) (a0 : Int32) (v3 : Int64)  : Nat → Int32 → Int32 → Option Int32
  | 0, _, _ => none
  | n7 + 1, x5, x6 => (if (x6 - x5) ≤ 1 then some x5 else bd ((x6 + x5) / 2 : Int32) fun x9 : Int32 => (f_X5_worthNow N M mof mdy a0 x9).bind fun v10 : Int64 => (if (lg_cmp v10 v3) < 0 then f_X5_yielded_L25 N M mof mdy a0 v3 n7 x5 x9 else f_X5_yielded_L25 N M mof mdy a0 v3 n7 x9 x6))
def f_X5_yielded (N : Nat) (M : Nat → Int32) (mof : Nat → Int32) (mdy : Nat → Int32) (a0 : Int32) (a1 : Int32) : Option Int32 :=
  (f_X5_isThere mof a0).bind fun v1 : Int32 => (if v1 = 0 then some ((-1)) else (f_X5_fullPrice N M mof mdy a0 a1).bind fun v3 : Int64 => bd ((-1) : Int32) fun x4 : Int32 => f_X5_yielded_L25 N M mof mdy a0 v3 N x4 5001)
set_option maxHeartbeats 4000000 in
set_option maxRecDepth 100000 in
theorem m_X5_yielded (l : Launch) (D : va_G) (cI cJ cO : ClassId) (hm mh mo my mp : Nat) (M : Nat → Int32) (mc : Int64) (mhol mof mdy : Nat → Int32) (mpd : Nat → Int64) (a0 : Int32) (a1 : Int32) (N : Nat) (r : Int32) (hf : f_X5_yielded N M mof mdy a0 a1 = some r) : Met l yX5_yielded wsX5_yielded ({ frames := 6, cells := 0, slots := 0, locals := 151 }) (va_Pc [.ref hm, .int a0, .int a1] (pw D (ty3 cI cJ cO) none [eM hm mh mo my mp M mc, eH cI mh mhol, eO cI mo mof, eY cI my mdy, eP cJ mp mpd])) (QSi r) 0 0 (fun _ => False) := by
  refine Met.ofW (cc := cX5_yielded) (maxL := 8) (ret := (some .int)) (by decide) rfl ?_
  intro p e s m args below meth c s₁ Bd hml hv
  obtain ⟨rfl, hZ, hP, hK⟩ := hv
  have hx := Bd.exec
  have hb := Bd.bytes
  have hr := Bd.returns
  have hts := atoms_spec (ws := wsX5_yielded) Bd.pre
  have hown : s.vm.findClass RX5 = some m.cls := findClass_of_methodNamed Bd.named
  have hlocks := Bd.notSynchronized
  have hl := lv_entry ([.ref hm, .int a0, .int a1]) (n := 8) (Nat.le_of_ble_eq_true rfl)
  rw [lg_entry_eq]
  generalize (lg_sl ([.ref hm, .int a0, .int a1]) ++ List.replicate (8 - (lg_sl ([.ref hm, .int a0, .int a1])).length) Slot.unset).toArray = ls at hl ⊢
  have hl : lv_has ls 8 [(0, .ref hm), (1, .int a0), (2, .int a1)] := hl
  unfold f_X5_yielded at hf
  refine lv_aload_n hx hb dX5_yielded_0 rfl (lv_at hl 0 rfl) ?_
  refine lv_iload_n hx hb dX5_yielded_1 rfl (lv_at hl 1 rfl) ?_
  obtain ⟨v1, hv1, hf⟩ := ob hf
  refine cSz (W.runV (As := [.int a0]) (rest := []) ⟨hx, hb, hml, hown, hts⟩ (m_X5_isThere l D cI cJ cO hm mh mo my mp M mc mhol mof mdy mpd a0 v1 hv1) (cwV 1 hts gX5_yielded_X5_isThere rfl rfl rfl (by decide +kernel) ⟨Nat.le_of_ble_eq_true rfl, Nat.le_of_ble_eq_true rfl⟩) ⟨pw_blind, va_recv hK hP (ci := 4) (q0 := 0) rfl rfl, fun U hU hW => ⟨rfl, pw_at hZ va_S.rf hP hK hU hW (Or.inr rfl) [0, 1, 2, 3, 4] rfl⟩⟩ rfl rfl hl.1 rfl (lv_room (Nat.le_of_ble_eq_true rfl)) dX5_yielded_2 ⟨Nat.zero_le _, Nat.zero_le _⟩) (fun zv1 => ?_)
  refine lv_if_ne (tgt := 10) hx hb dX5_yielded_5 (by decide) (fun c2 => ?_) (fun c2 => ?_)
  · have hf := ie hf c2
    refine lv_aload_n hx hb dX5_yielded_10 rfl (lv_at hl 0 rfl) ?_
    refine lv_iload_n hx hb dX5_yielded_11 rfl (lv_at hl 1 rfl) ?_
    refine lv_iload_n hx hb dX5_yielded_12 rfl (lv_at hl 2 rfl) ?_
    obtain ⟨v3, hv3, hf⟩ := ob hf
    refine cSl (W.runV (As := [.int a0, .int a1]) (rest := []) ⟨hx, hb, hml, hown, hts⟩ (m_X5_fullPrice l D cI cJ cO hm mh mo my mp M mc mhol mof mdy mpd a0 a1 N v3 hv3) (cwV 2 hts gX5_yielded_X5_fullPrice rfl rfl rfl (by decide +kernel) ⟨Nat.le_of_ble_eq_true rfl, Nat.le_of_ble_eq_true rfl⟩) ⟨pw_blind, va_recv hK hP (ci := 4) (q0 := 0) rfl rfl, fun U hU hW => ⟨rfl, pw_at hZ va_S.rf hP hK hU hW (Or.inr rfl) [0, 1, 2, 3, 4] rfl⟩⟩ rfl rfl hl.1 rfl (lv_room (Nat.le_of_ble_eq_true rfl)) dX5_yielded_13 ⟨Nat.zero_le _, Nat.zero_le _⟩) ?_
    refine lv_lstore_n (lv' := [(3, .long v3), (0, .ref hm), (1, .int a0), (2, .int a1)]) hx hb dX5_yielded_16 rfl hl (by decide) rfl (fun ls hl => ?_)
    refine lv_iconst (v := (-1)) hx hb dX5_yielded_17 (by decide) ?_
    refine lv_topi (fun x4 ex4 => ?_)
    have hf := bd_s hf ex4
    refine lv_istore (lv' := [(5, .int x4), (3, .long v3), (0, .ref hm), (1, .int a0), (2, .int a1)]) hx hb dX5_yielded_18 hl (by decide) rfl (fun ls hl => ?_)
    refine lv_sipush (v := 5001) hx hb dX5_yielded_20 (by decide) ?_
    refine lv_istore (lv' := [(6, .int 5001), (5, .int x4), (3, .long v3), (0, .ref hm), (1, .int a0), (2, .int a1)]) hx hb dX5_yielded_23 hl (by decide) rfl (fun ls hl => ?_)
    have LP25 : ∀ (n7 : Nat) (x5 : Int32) (x6 : Int32) (ls : Array Slot), lv_has ls 8 [(0, .ref hm), (1, .int a0), (3, .long v3), (5, .int x5), (6, .int x6)] → f_X5_yielded_L25 N M mof mdy a0 v3 n7 x5 x6 = some r → W p l e (headSpec wsX5_yielded ({ frames := 6, cells := 0, slots := 0, locals := 151 })).room s m ([.ref hm, .int a0, .int a1] : List Value).toArray below meth c s.heap [] 0 0 (MQ below (QSi r) ([.ref hm, .int a0, .int a1] : List Value).toArray s 0 0 (fun _ => False)) (F0 m 25 ls []) := by
      intro n7
      induction n7 with
      | zero => intro x5 x6 ls hl hf; exact (no_s hf).elim
      | succ n7 ih7 =>
        intro x5 x6 ls hl hf
        rw [f_X5_yielded_L25] at hf
        refine lv_iload hx hb dX5_yielded_25 (lv_at hl 4 rfl) ?_
        refine lv_iload hx hb dX5_yielded_27 (lv_at hl 3 rfl) ?_
        refine lv_isub hx hb dX5_yielded_29 ?_
        refine lv_iconst (v := 1) hx hb dX5_yielded_30 (by decide) ?_
        refine lv_icmp_le (tgt := 69) hx hb dX5_yielded_31 (by decide) (fun c8 => ?_) (fun c8 => ?_)
        · have hf := it hf c8
          refine lv_iload hx hb dX5_yielded_69 (lv_at hl 3 rfl) ?_
          exact W.iret hx hb hr (fun t ht _ => ⟨_, rfl, Option.some.inj hf, ht⟩) (fun q hq => absurd hq List.not_mem_nil) dX5_yielded_71
        · have hf := ie hf c8
          refine lv_iload hx hb dX5_yielded_34 (lv_at hl 4 rfl) ?_
          refine lv_iload hx hb dX5_yielded_36 (lv_at hl 3 rfl) ?_
          refine lv_iadd hx hb dX5_yielded_38 ?_
          refine lv_iconst (v := 2) hx hb dX5_yielded_39 (by decide) ?_
          refine lv_idiv hx hb dX5_yielded_40 (by decide) ?_
          refine lv_topi (fun x9 ex9 => ?_)
          have hf := bd_s hf ex9
          refine lv_istore (lv' := [(7, .int x9), (0, .ref hm), (1, .int a0), (3, .long v3), (5, .int x5), (6, .int x6)]) hx hb dX5_yielded_41 hl (by decide) rfl (fun ls hl => ?_)
          refine lv_aload_n hx hb dX5_yielded_43 rfl (lv_at hl 1 rfl) ?_
          refine lv_iload_n hx hb dX5_yielded_44 rfl (lv_at hl 2 rfl) ?_
          refine lv_iload hx hb dX5_yielded_45 (lv_at hl 0 rfl) ?_
          obtain ⟨v10, hv10, hf⟩ := ob hf
          refine cSl (W.runV (As := [.int a0, .int x9]) (rest := []) ⟨hx, hb, hml, hown, hts⟩ (m_X5_worthNow l D cI cJ cO hm mh mo my mp M mc mhol mof mdy mpd a0 x9 N v10 hv10) (cwV 2 hts gX5_yielded_X5_worthNow rfl rfl rfl (by decide +kernel) ⟨Nat.le_of_ble_eq_true rfl, Nat.le_of_ble_eq_true rfl⟩) ⟨pw_blind, va_recv hK hP (ci := 4) (q0 := 0) rfl rfl, fun U hU hW => ⟨rfl, pw_at hZ va_S.rf hP hK hU hW (Or.inr rfl) [0, 1, 2, 3, 4] rfl⟩⟩ rfl rfl hl.1 rfl (lv_room (Nat.le_of_ble_eq_true rfl)) dX5_yielded_47 ⟨Nat.zero_le _, Nat.zero_le _⟩) ?_
          refine lv_lload_n hx hb dX5_yielded_50 rfl (lv_at hl 3 rfl) ?_
          refine W.lcmp hx hb dX5_yielded_51 ?_
          refine lv_if_lt (tgt := 62) hx hb dX5_yielded_52 (by decide) (fun c11 => ?_) (fun c11 => ?_)
          · have hf := it hf c11
            refine lv_iload hx hb dX5_yielded_62 (lv_at hl 0 rfl) ?_
            refine lv_istore (lv' := [(6, .int x9), (7, .int x9), (0, .ref hm), (1, .int a0), (3, .long v3), (5, .int x5)]) hx hb dX5_yielded_64 hl (by decide) rfl (fun ls hl => ?_)
            refine lv_goto (tgt := 25) hx hb dX5_yielded_66 (by decide) ?_
            exact ih7 x5 x9 ls (lv_sub hl [2, 3, 4, 5, 0] rfl) hf
          · have hf := ie hf c11
            refine lv_iload hx hb dX5_yielded_55 (lv_at hl 0 rfl) ?_
            refine lv_istore (lv' := [(5, .int x9), (7, .int x9), (0, .ref hm), (1, .int a0), (3, .long v3), (6, .int x6)]) hx hb dX5_yielded_57 hl (by decide) rfl (fun ls hl => ?_)
            refine lv_goto (tgt := 66) hx hb dX5_yielded_59 (by decide) ?_
            refine lv_goto (tgt := 25) hx hb dX5_yielded_66 (by decide) ?_
            exact ih7 x9 x6 ls (lv_sub hl [2, 3, 4, 0, 5] rfl) hf
    exact LP25 N x4 5001 ls (lv_sub hl [3, 4, 2, 1, 0] rfl) hf
  · have hf := it hf c2
    refine lv_iconst (v := (-1)) hx hb dX5_yielded_8 (by decide) ?_
    exact W.iret hx hb hr (fun t ht _ => ⟨_, rfl, Option.some.inj hf, ht⟩) (fun q hq => absurd hq List.not_mem_nil) dX5_yielded_9
def f_X5_callPaid (mof : Nat → Int32) (a0 : Int32) (a1 : Int32) : Option Int64 :=
  (f_X5_own mof a0 13).bind fun v1 : Int32 => some (((10 * (a1.toInt64)) * (v1.toInt64)) / 10000)
set_option maxHeartbeats 4000000 in
set_option maxRecDepth 100000 in
theorem m_X5_callPaid (l : Launch) (D : va_G) (cI cJ cO : ClassId) (hm mh mo my mp : Nat) (M : Nat → Int32) (mc : Int64) (mhol mof mdy : Nat → Int32) (mpd : Nat → Int64) (a0 : Int32) (a1 : Int32) (r : Int64) (hf : f_X5_callPaid mof a0 a1 = some r) : Met l yX5_callPaid wsX5_callPaid ({ frames := 1, cells := 0, slots := 0, locals := 22 }) (va_Pc [.ref hm, .int a0, .int a1] (pw D (ty3 cI cJ cO) none [eM hm mh mo my mp M mc, eH cI mh mhol, eO cI mo mof, eY cI my mdy, eP cJ mp mpd])) (QSl r) 0 0 (fun _ => False) := by
  refine Met.ofW (cc := cX5_callPaid) (maxL := 3) (ret := (some .long)) (by decide) rfl ?_
  intro p e s m args below meth c s₁ Bd hml hv
  obtain ⟨rfl, hZ, hP, hK⟩ := hv
  have hx := Bd.exec
  have hb := Bd.bytes
  have hr := Bd.returns
  have hts := atoms_spec (ws := wsX5_callPaid) Bd.pre
  have hown : s.vm.findClass RX5 = some m.cls := findClass_of_methodNamed Bd.named
  have hlocks := Bd.notSynchronized
  have hl := lv_entry ([.ref hm, .int a0, .int a1]) (n := 3) (Nat.le_of_ble_eq_true rfl)
  rw [lg_entry_eq]
  generalize (lg_sl ([.ref hm, .int a0, .int a1]) ++ List.replicate (3 - (lg_sl ([.ref hm, .int a0, .int a1])).length) Slot.unset).toArray = ls at hl ⊢
  have hl : lv_has ls 3 [(0, .ref hm), (1, .int a0), (2, .int a1)] := hl
  unfold f_X5_callPaid at hf
  refine lv_ldc2 hx hb hown (hts (.constantLong RX5 159 (10)) (by decide +kernel)) dX5_callPaid_0 ?_
  refine lv_iload_n hx hb dX5_callPaid_3 rfl (lv_at hl 2 rfl) ?_
  refine lv_i2l hx hb dX5_callPaid_4 rfl ?_
  refine lv_lmul hx hb dX5_callPaid_5 ?_
  refine lv_aload_n hx hb dX5_callPaid_6 rfl (lv_at hl 0 rfl) ?_
  refine lv_iload_n hx hb dX5_callPaid_7 rfl (lv_at hl 1 rfl) ?_
  refine lv_bipush (v := 13) hx hb dX5_callPaid_8 (by decide) ?_
  obtain ⟨v1, hv1, hf⟩ := ob hf
  refine cSi (W.runV (As := [.int a0, .int 13]) (rest := [.long (10 * (a1.toInt64))]) ⟨hx, hb, hml, hown, hts⟩ (m_X5_own l D cI cJ cO hm mh mo my mp M mc mhol mof mdy mpd a0 13 v1 hv1) (cwV 2 hts gX5_callPaid_X5_own rfl rfl rfl (by decide +kernel) ⟨Nat.le_of_ble_eq_true rfl, Nat.le_of_ble_eq_true rfl⟩) ⟨pw_blind, va_recv hK hP (ci := 4) (q0 := 0) rfl rfl, fun U hU hW => ⟨rfl, pw_at hZ va_S.rf hP hK hU hW (Or.inr rfl) [0, 1, 2, 3, 4] rfl⟩⟩ rfl rfl hl.1 rfl (lv_room (Nat.le_of_ble_eq_true rfl)) dX5_callPaid_10 ⟨Nat.zero_le _, Nat.zero_le _⟩) ?_
  refine lv_i2l hx hb dX5_callPaid_13 rfl ?_
  refine lv_lmul hx hb dX5_callPaid_14 ?_
  refine lv_ldc2 hx hb hown (hts (.constantLong RX5 132 (10000)) (by decide +kernel)) dX5_callPaid_15 ?_
  refine lv_ldiv hx hb dX5_callPaid_18 (by decide) ?_
  exact W.lret hx hb hr (fun t ht _ => ⟨_, rfl, Option.some.inj hf, ht⟩) (fun q hq => absurd hq List.not_mem_nil) dX5_callPaid_19
def f_X5_counted_L159 (M : Nat → Int32) (mof : Nat → Int32) (N : Nat) (mdy : Nat → Int32)  : Nat → Int64 → Int32 → Option Int64
  | 0, _, _ => none
  | n28 + 1, x26, x27 => (if (M 4) ≤ x27 then some x26 else (f_X5_own mof x27 9).bind fun v30 : Int32 => (if v30 ≤ 0 then bd (x27 + 1) fun x32 : Int32 => f_X5_counted_L159 M mof N mdy n28 x26 x32 else (f_X5_own mof x27 9).bind fun v33 : Int32 => (f_X5_worthNow N M mof mdy x27 (M 3)).bind fun v34 : Int64 => bd (x26 + ((v33.toInt64) * v34) : Int64) fun x35 : Int64 => bd (x27 + 1) fun x36 : Int32 => f_X5_counted_L159 M mof N mdy n28 x35 x36))
def f_X5_counted_L8 (M : Nat → Int32) (mof : Nat → Int32) (K4 : Int64 → Int64 → Option Int64) : Nat → Int64 → Int64 → Int32 → Option Int64
  | 0, _, _, _ => none
  | n7 + 1, x1, x2, x3 => (if (M 4) ≤ x3 then K4 x1 x2 else (f_X5_isThere mof x3).bind fun v9 : Int32 => jn (fun (x11 : Int64) => bd (x1 + x11 : Int64) fun x12 : Int64 => (f_X5_own mof x3 9).bind fun v13 : Int32 => bd (x2 + (v13.toInt64) : Int64) fun x14 : Int64 => bd (x3 + 1) fun x15 : Int32 => f_X5_counted_L8 M mof K4 n7 x12 x14 x15) fun K10 => (if v9 = 0 then K10 0 else K10 1))
def f_X5_counted (N : Nat) (M : Nat → Int32) (mc : Int64) (mof : Nat → Int32) (mdy : Nat → Int32) (mpd : Nat → Int64) (a0 : Int32) : Option Int64 :=
  f_X5_counted_L8 M mof (fun (x5 : Int64) (x6 : Int64) => (if a0 = 0 then (f_X5_date N (M 1)).bind fun v18 : Int32 => some (v18.toInt64) else (if a0 = 1 then some mc else (if a0 = 2 then some ((M 3).toInt64) else (if a0 = 3 then some ((M 4).toInt64) else (if a0 = 4 then some x5 else (if a0 = 5 then some ((M 5).toInt64) else (if a0 = 6 then some x6 else (if a0 = 11 then f_X5_counted_L159 M mof N mdy N 0 0 else bd (a0 - 7 : Int32) fun x37 : Int32 => gd (¬ (x37 < 0 ∨ 4 ≤ x37.toNatClampNeg)) (some (mpd x37.toNatClampNeg))))))))))) N 0 0 0
theorem inX5_counted_X5 : ∀ w ∈ wsX50, w ∈ wsX5_counted := by decide +kernel
set_option maxHeartbeats 4000000 in
set_option maxRecDepth 100000 in
theorem m_X5_counted (l : Launch) (D : va_G) (cI cJ cO : ClassId) (hm mh mo my mp : Nat) (M : Nat → Int32) (mc : Int64) (mhol mof mdy : Nat → Int32) (mpd : Nat → Int64) (a0 : Int32) (N : Nat) (r : Int64) (hf : f_X5_counted N M mc mof mdy mpd a0 = some r) : Met l yX5_counted wsX5_counted ({ frames := 6, cells := 0, slots := 0, locals := 151 }) (va_Pc [.ref hm, .int a0] (pw D (ty3 cI cJ cO) none [eM hm mh mo my mp M mc, eH cI mh mhol, eO cI mo mof, eY cI my mdy, eP cJ mp mpd])) (QSl r) 0 0 (fun _ => False) := by
  refine Met.ofW (cc := cX5_counted) (maxL := 9) (ret := (some .long)) (by decide) rfl ?_
  intro p e s m args below meth c s₁ Bd hml hv
  obtain ⟨rfl, hZ, hP, hK⟩ := hv
  have hx := Bd.exec
  have hb := Bd.bytes
  have hr := Bd.returns
  have hts := atoms_spec (ws := wsX5_counted) Bd.pre
  have hown : s.vm.findClass RX5 = some m.cls := findClass_of_methodNamed Bd.named
  have hlocks := Bd.notSynchronized
  have hl := lv_entry ([.ref hm, .int a0]) (n := 9) (Nat.le_of_ble_eq_true rfl)
  rw [lg_entry_eq]
  generalize (lg_sl ([.ref hm, .int a0]) ++ List.replicate (9 - (lg_sl ([.ref hm, .int a0])).length) Slot.unset).toArray = ls at hl ⊢
  have hl : lv_has ls 9 [(0, .ref hm), (1, .int a0)] := hl
  unfold f_X5_counted at hf
  refine lv_lconst (v := 0) hx hb dX5_counted_0 (by decide) ?_
  refine lv_lstore_n (lv' := [(2, .long 0), (0, .ref hm), (1, .int a0)]) hx hb dX5_counted_1 rfl hl (by decide) rfl (fun ls hl => ?_)
  refine lv_lconst (v := 0) hx hb dX5_counted_2 (by decide) ?_
  refine lv_lstore (lv' := [(4, .long 0), (2, .long 0), (0, .ref hm), (1, .int a0)]) hx hb dX5_counted_3 hl (by decide) rfl (fun ls hl => ?_)
  refine lv_iconst (v := 0) hx hb dX5_counted_5 (by decide) ?_
  refine lv_istore (lv' := [(6, .int 0), (4, .long 0), (2, .long 0), (0, .ref hm), (1, .int a0)]) hx hb dX5_counted_6 hl (by decide) rfl (fun ls hl => ?_)
  obtain ⟨K4, hK4, hf⟩ := kx_s (P := fun k => f_X5_counted_L8 M mof k N 0 0 0 = some r) hf
  have JK4 : ∀ (x5 : Int64) (x6 : Int64) (ls : Array Slot), lv_has ls 9 [(0, .ref hm), (1, .int a0), (2, .long x5), (4, .long x6)] → K4 x5 x6 = some r → W p l e (headSpec wsX5_counted ({ frames := 6, cells := 0, slots := 0, locals := 151 })).room s m ([.ref hm, .int a0] : List Value).toArray below meth c s.heap [] 0 0 (MQ below (QSl r) ([.ref hm, .int a0] : List Value).toArray s 0 0 (fun _ => False)) (F0 m 54 ls []) := by
    intro x5 x6 ls hl hf
    rw [hK4] at hf
    refine lv_iload_n hx hb dX5_counted_54 rfl (lv_at hl 1 rfl) ?_
    by_cases c17 : a0 = 0
    · have hf := it hf c17
      refine lv_tableIn (off := 61) (tgt := 116) hx hb dX5_counted_55 (by rw [c17]; decide) (by rw [c17]; decide) (by rw [c17]; rfl) (by decide) ?_
      refine lv_aload_n hx hb dX5_counted_116 rfl (lv_at hl 0 rfl) ?_
      refine va_get (D := D) (ci := 4) (v := .int (M 1)) (C := RX5) (T := TX5) (N := 10) hx hb hts inX5_counted_X5 hown hK hP 0 rfl rfl 1 (by decide) (hts (.fieldLink RX5 14 "BondDeskModel" "today" "I") (by decide +kernel)) (fun _ h9 => h9) rfl dX5_counted_117 ?_
      obtain ⟨v18, hv18, hf⟩ := ob hf
      refine cSi (W.runS (As := [.int (M 1)]) (rest := []) ⟨hx, hb, hml, hown, hts⟩ (m_X5_date l D cI cJ cO (M 1) N v18 hv18) (va_cwS 1 hts gX5_counted_X5_date rfl rfl rfl (by decide +kernel) ⟨Nat.le_of_ble_eq_true rfl, Nat.le_of_ble_eq_true rfl⟩) ⟨pw_blind, fun U hU hW => ⟨rfl, pw_at hZ va_S.rf hP hK hU hW (Or.inr rfl) [] rfl⟩⟩ rfl rfl hl.1 rfl (lv_room (Nat.le_of_ble_eq_true rfl)) dX5_counted_120 ⟨Nat.zero_le _, Nat.zero_le _⟩) ?_
      refine lv_i2l hx hb dX5_counted_123 rfl ?_
      exact W.lret hx hb hr (fun t ht _ => ⟨_, rfl, Option.some.inj hf, ht⟩) (fun q hq => absurd hq List.not_mem_nil) dX5_counted_124
    have hf := ie hf c17
    by_cases c19 : a0 = 1
    · have hf := it hf c19
      refine lv_tableIn (off := 70) (tgt := 125) hx hb dX5_counted_55 (by rw [c19]; decide) (by rw [c19]; decide) (by rw [c19]; rfl) (by decide) ?_
      refine lv_aload_n hx hb dX5_counted_125 rfl (lv_at hl 0 rfl) ?_
      refine va_get (D := D) (ci := 4) (v := .long mc) (C := RX5) (T := TX5) (N := 10) hx hb hts inX5_counted_X5 hown hK hP 0 rfl rfl 2 (by decide) (hts (.fieldLink RX5 20 "BondDeskModel" "cash" "J") (by decide +kernel)) (fun _ h9 => h9) rfl dX5_counted_126 ?_
      exact W.lret hx hb hr (fun t ht _ => ⟨_, rfl, Option.some.inj hf, ht⟩) (fun q hq => absurd hq List.not_mem_nil) dX5_counted_129
    have hf := ie hf c19
    by_cases c20 : a0 = 2
    · have hf := it hf c20
      refine lv_tableIn (off := 75) (tgt := 130) hx hb dX5_counted_55 (by rw [c20]; decide) (by rw [c20]; decide) (by rw [c20]; rfl) (by decide) ?_
      refine lv_aload_n hx hb dX5_counted_130 rfl (lv_at hl 0 rfl) ?_
      refine va_get (D := D) (ci := 4) (v := .int (M 3)) (C := RX5) (T := TX5) (N := 10) hx hb hts inX5_counted_X5 hown hK hP 0 rfl rfl 3 (by decide) (hts (.fieldLink RX5 24 "BondDeskModel" "rate" "I") (by decide +kernel)) (fun _ h9 => h9) rfl dX5_counted_131 ?_
      refine lv_i2l hx hb dX5_counted_134 rfl ?_
      exact W.lret hx hb hr (fun t ht _ => ⟨_, rfl, Option.some.inj hf, ht⟩) (fun q hq => absurd hq List.not_mem_nil) dX5_counted_135
    have hf := ie hf c20
    by_cases c21 : a0 = 3
    · have hf := it hf c21
      refine lv_tableIn (off := 81) (tgt := 136) hx hb dX5_counted_55 (by rw [c21]; decide) (by rw [c21]; decide) (by rw [c21]; rfl) (by decide) ?_
      refine lv_aload_n hx hb dX5_counted_136 rfl (lv_at hl 0 rfl) ?_
      refine va_get (D := D) (ci := 4) (v := .int (M 4)) (C := RX5) (T := TX5) (N := 10) hx hb hts inX5_counted_X5 hown hK hP 0 rfl rfl 4 (by decide) (hts (.fieldLink RX5 77 "BondDeskModel" "bonds" "I") (by decide +kernel)) (fun _ h9 => h9) rfl dX5_counted_137 ?_
      refine lv_i2l hx hb dX5_counted_140 rfl ?_
      exact W.lret hx hb hr (fun t ht _ => ⟨_, rfl, Option.some.inj hf, ht⟩) (fun q hq => absurd hq List.not_mem_nil) dX5_counted_141
    have hf := ie hf c21
    by_cases c22 : a0 = 4
    · have hf := it hf c22
      refine lv_tableIn (off := 87) (tgt := 142) hx hb dX5_counted_55 (by rw [c22]; decide) (by rw [c22]; decide) (by rw [c22]; rfl) (by decide) ?_
      refine lv_lload_n hx hb dX5_counted_142 rfl (lv_at hl 2 rfl) ?_
      exact W.lret hx hb hr (fun t ht _ => ⟨_, rfl, Option.some.inj hf, ht⟩) (fun q hq => absurd hq List.not_mem_nil) dX5_counted_143
    have hf := ie hf c22
    by_cases c23 : a0 = 5
    · have hf := it hf c23
      refine lv_tableIn (off := 89) (tgt := 144) hx hb dX5_counted_55 (by rw [c23]; decide) (by rw [c23]; decide) (by rw [c23]; rfl) (by decide) ?_
      refine lv_aload_n hx hb dX5_counted_144 rfl (lv_at hl 0 rfl) ?_
      refine va_get (D := D) (ci := 4) (v := .int (M 5)) (C := RX5) (T := TX5) (N := 10) hx hb hts inX5_counted_X5 hown hK hP 0 rfl rfl 5 (by decide) (hts (.fieldLink RX5 57 "BondDeskModel" "holidays" "I") (by decide +kernel)) (fun _ h9 => h9) rfl dX5_counted_145 ?_
      refine lv_i2l hx hb dX5_counted_148 rfl ?_
      exact W.lret hx hb hr (fun t ht _ => ⟨_, rfl, Option.some.inj hf, ht⟩) (fun q hq => absurd hq List.not_mem_nil) dX5_counted_149
    have hf := ie hf c23
    by_cases c24 : a0 = 6
    · have hf := it hf c24
      refine lv_tableIn (off := 95) (tgt := 150) hx hb dX5_counted_55 (by rw [c24]; decide) (by rw [c24]; decide) (by rw [c24]; rfl) (by decide) ?_
      refine lv_lload hx hb dX5_counted_150 (lv_at hl 3 rfl) ?_
      exact W.lret hx hb hr (fun t ht _ => ⟨_, rfl, Option.some.inj hf, ht⟩) (fun q hq => absurd hq List.not_mem_nil) dX5_counted_152
    have hf := ie hf c24
    by_cases c25 : a0 = 11
    · have hf := it hf c25
      refine lv_tableIn (off := 98) (tgt := 153) hx hb dX5_counted_55 (by rw [c25]; decide) (by rw [c25]; decide) (by rw [c25]; rfl) (by decide) ?_
      refine lv_lconst (v := 0) hx hb dX5_counted_153 (by decide) ?_
      refine lv_lstore (lv' := [(6, .long 0), (0, .ref hm), (1, .int a0), (2, .long x5), (4, .long x6)]) hx hb dX5_counted_154 hl (by decide) rfl (fun ls hl => ?_)
      refine lv_iconst (v := 0) hx hb dX5_counted_156 (by decide) ?_
      refine lv_istore (lv' := [(8, .int 0), (6, .long 0), (0, .ref hm), (1, .int a0), (2, .long x5), (4, .long x6)]) hx hb dX5_counted_157 hl (by decide) rfl (fun ls hl => ?_)
      have LP159 : ∀ (n28 : Nat) (x26 : Int64) (x27 : Int32) (ls : Array Slot), lv_has ls 9 [(0, .ref hm), (6, .long x26), (8, .int x27)] → f_X5_counted_L159 M mof N mdy n28 x26 x27 = some r → W p l e (headSpec wsX5_counted ({ frames := 6, cells := 0, slots := 0, locals := 151 })).room s m ([.ref hm, .int a0] : List Value).toArray below meth c s.heap [] 0 0 (MQ below (QSl r) ([.ref hm, .int a0] : List Value).toArray s 0 0 (fun _ => False)) (F0 m 159 ls []) := by
        intro n28
        induction n28 with
        | zero => intro x26 x27 ls hl hf; exact (no_s hf).elim
        | succ n28 ih28 =>
          intro x26 x27 ls hl hf
          rw [f_X5_counted_L159] at hf
          refine lv_iload hx hb dX5_counted_159 (lv_at hl 2 rfl) ?_
          refine lv_aload_n hx hb dX5_counted_161 rfl (lv_at hl 0 rfl) ?_
          refine va_get (D := D) (ci := 4) (v := .int (M 4)) (C := RX5) (T := TX5) (N := 10) hx hb hts inX5_counted_X5 hown hK hP 0 rfl rfl 4 (by decide) (hts (.fieldLink RX5 77 "BondDeskModel" "bonds" "I") (by decide +kernel)) (fun _ h9 => h9) rfl dX5_counted_162 ?_
          refine lv_icmp_ge (tgt := 210) hx hb dX5_counted_165 (by decide) (fun c29 => ?_) (fun c29 => ?_)
          · have hf := it hf c29
            refine lv_lload hx hb dX5_counted_210 (lv_at hl 1 rfl) ?_
            exact W.lret hx hb hr (fun t ht _ => ⟨_, rfl, Option.some.inj hf, ht⟩) (fun q hq => absurd hq List.not_mem_nil) dX5_counted_212
          · have hf := ie hf c29
            refine lv_aload_n hx hb dX5_counted_168 rfl (lv_at hl 0 rfl) ?_
            refine lv_iload hx hb dX5_counted_169 (lv_at hl 2 rfl) ?_
            refine lv_bipush (v := 9) hx hb dX5_counted_171 (by decide) ?_
            obtain ⟨v30, hv30, hf⟩ := ob hf
            refine cSi (W.runV (As := [.int x27, .int 9]) (rest := []) ⟨hx, hb, hml, hown, hts⟩ (m_X5_own l D cI cJ cO hm mh mo my mp M mc mhol mof mdy mpd x27 9 v30 hv30) (cwV 2 hts gX5_counted_X5_own rfl rfl rfl (by decide +kernel) ⟨Nat.le_of_ble_eq_true rfl, Nat.le_of_ble_eq_true rfl⟩) ⟨pw_blind, va_recv hK hP (ci := 4) (q0 := 0) rfl rfl, fun U hU hW => ⟨rfl, pw_at hZ va_S.rf hP hK hU hW (Or.inr rfl) [0, 1, 2, 3, 4] rfl⟩⟩ rfl rfl hl.1 rfl (lv_room (Nat.le_of_ble_eq_true rfl)) dX5_counted_173 ⟨Nat.zero_le _, Nat.zero_le _⟩) ?_
            refine lv_if_le (tgt := 204) hx hb dX5_counted_176 (by decide) (fun c31 => ?_) (fun c31 => ?_)
            · have hf := it hf c31
              obtain ⟨x32, ex32⟩ : ∃ y : Int32, y = x27 + 1 := ⟨_, rfl⟩
              have hf := bd_s hf ex32
              refine lv_iinc (v := x32) (lv' := [(8, .int x32), (0, .ref hm), (6, .long x26)]) hx hb dX5_counted_204 hl (k := 2) rfl (by rw [ex32]; rfl) (by decide) rfl (fun ls hl => ?_)
              refine lv_goto (tgt := 159) hx hb dX5_counted_207 (by decide) ?_
              exact ih28 x26 x32 ls (lv_sub hl [1, 2, 0] rfl) hf
            · have hf := ie hf c31
              refine lv_lload hx hb dX5_counted_179 (lv_at hl 1 rfl) ?_
              refine lv_aload_n hx hb dX5_counted_181 rfl (lv_at hl 0 rfl) ?_
              refine lv_iload hx hb dX5_counted_182 (lv_at hl 2 rfl) ?_
              refine lv_bipush (v := 9) hx hb dX5_counted_184 (by decide) ?_
              obtain ⟨v33, hv33, hf⟩ := ob hf
              refine cSi (W.runV (As := [.int x27, .int 9]) (rest := [.long x26]) ⟨hx, hb, hml, hown, hts⟩ (m_X5_own l D cI cJ cO hm mh mo my mp M mc mhol mof mdy mpd x27 9 v33 hv33) (cwV 2 hts gX5_counted_X5_own rfl rfl rfl (by decide +kernel) ⟨Nat.le_of_ble_eq_true rfl, Nat.le_of_ble_eq_true rfl⟩) ⟨pw_blind, va_recv hK hP (ci := 4) (q0 := 0) rfl rfl, fun U hU hW => ⟨rfl, pw_at hZ va_S.rf hP hK hU hW (Or.inr rfl) [0, 1, 2, 3, 4] rfl⟩⟩ rfl rfl hl.1 rfl (lv_room (Nat.le_of_ble_eq_true rfl)) dX5_counted_186 ⟨Nat.zero_le _, Nat.zero_le _⟩) ?_
              refine lv_i2l hx hb dX5_counted_189 rfl ?_
              refine lv_aload_n hx hb dX5_counted_190 rfl (lv_at hl 0 rfl) ?_
              refine lv_iload hx hb dX5_counted_191 (lv_at hl 2 rfl) ?_
              refine lv_aload_n hx hb dX5_counted_193 rfl (lv_at hl 0 rfl) ?_
              refine va_get (D := D) (ci := 4) (v := .int (M 3)) (C := RX5) (T := TX5) (N := 10) hx hb hts inX5_counted_X5 hown hK hP 0 rfl rfl 3 (by decide) (hts (.fieldLink RX5 24 "BondDeskModel" "rate" "I") (by decide +kernel)) (fun _ h9 => h9) rfl dX5_counted_194 ?_
              obtain ⟨v34, hv34, hf⟩ := ob hf
              refine cSl (W.runV (As := [.int x27, .int (M 3)]) (rest := [.long (v33.toInt64), .long x26]) ⟨hx, hb, hml, hown, hts⟩ (m_X5_worthNow l D cI cJ cO hm mh mo my mp M mc mhol mof mdy mpd x27 (M 3) N v34 hv34) (cwV 2 hts gX5_counted_X5_worthNow rfl rfl rfl (by decide +kernel) ⟨Nat.le_of_ble_eq_true rfl, Nat.le_of_ble_eq_true rfl⟩) ⟨pw_blind, va_recv hK hP (ci := 4) (q0 := 0) rfl rfl, fun U hU hW => ⟨rfl, pw_at hZ va_S.rf hP hK hU hW (Or.inr rfl) [0, 1, 2, 3, 4] rfl⟩⟩ rfl rfl hl.1 rfl (lv_room (Nat.le_of_ble_eq_true rfl)) dX5_counted_197 ⟨Nat.zero_le _, Nat.zero_le _⟩) ?_
              refine lv_lmul hx hb dX5_counted_200 ?_
              refine lv_ladd hx hb dX5_counted_201 ?_
              refine lv_topl (fun x35 ex35 => ?_)
              have hf := bd_s hf ex35
              refine lv_lstore (lv' := [(6, .long x35), (0, .ref hm), (8, .int x27)]) hx hb dX5_counted_202 hl (by decide) rfl (fun ls hl => ?_)
              obtain ⟨x36, ex36⟩ : ∃ y : Int32, y = x27 + 1 := ⟨_, rfl⟩
              have hf := bd_s hf ex36
              refine lv_iinc (v := x36) (lv' := [(8, .int x36), (6, .long x35), (0, .ref hm)]) hx hb dX5_counted_204 hl (k := 2) rfl (by rw [ex36]; rfl) (by decide) rfl (fun ls hl => ?_)
              refine lv_goto (tgt := 159) hx hb dX5_counted_207 (by decide) ?_
              exact ih28 x35 x36 ls (lv_sub hl [2, 1, 0] rfl) hf
      exact LP159 N 0 0 ls (lv_sub hl [2, 1, 0] rfl) hf
    have hf := ie hf c25
    have tc17 : ¬ a0.toInt = 0 := ne_ti c17
    have tc19 : ¬ a0.toInt = 1 := ne_ti c19
    have tc20 : ¬ a0.toInt = 2 := ne_ti c20
    have tc21 : ¬ a0.toInt = 3 := ne_ti c21
    have tc22 : ¬ a0.toInt = 4 := ne_ti c22
    have tc23 : ¬ a0.toInt = 5 := ne_ti c23
    have tc24 : ¬ a0.toInt = 6 := ne_ti c24
    have tc25 : ¬ a0.toInt = 11 := ne_ti c25
    refine lv_tableOut (tgt := 213) hx hb dX5_counted_55 (by omega) (by decide) ?_
    refine lv_aload_n hx hb dX5_counted_213 rfl (lv_at hl 0 rfl) ?_
    refine va_get (D := D) (ci := 4) (v := .ref mp) (C := RX5) (T := TX5) (N := 10) hx hb hts inX5_counted_X5 hown hK hP 0 rfl rfl 9 (by decide) (hts (.fieldLink RX5 37 "BondDeskModel" "paid" "[J") (by decide +kernel)) (fun _ h9 => h9) rfl dX5_counted_214 ?_
    refine lv_iload_n hx hb dX5_counted_217 rfl (lv_at hl 1 rfl) ?_
    refine lv_bipush (v := 7) hx hb dX5_counted_218 (by decide) ?_
    refine lv_isub hx hb dX5_counted_220 ?_
    refine lv_topi (fun x37 ex37 => ?_)
    have hf := bd_s hf ex37
    obtain ⟨c38, hf⟩ := gd_s hf
    refine va_lald hx hb hK hP 4 1 rfl rfl c38 dX5_counted_221 ?_
    exact W.lret hx hb hr (fun t ht _ => ⟨_, rfl, Option.some.inj hf, ht⟩) (fun q hq => absurd hq List.not_mem_nil) dX5_counted_222
  have LP8 : ∀ (n7 : Nat) (x1 : Int64) (x2 : Int64) (x3 : Int32) (ls : Array Slot), lv_has ls 9 [(0, .ref hm), (1, .int a0), (2, .long x1), (4, .long x2), (6, .int x3)] → f_X5_counted_L8 M mof K4 n7 x1 x2 x3 = some r → W p l e (headSpec wsX5_counted ({ frames := 6, cells := 0, slots := 0, locals := 151 })).room s m ([.ref hm, .int a0] : List Value).toArray below meth c s.heap [] 0 0 (MQ below (QSl r) ([.ref hm, .int a0] : List Value).toArray s 0 0 (fun _ => False)) (F0 m 8 ls []) := by
    intro n7
    induction n7 with
    | zero => intro x1 x2 x3 ls hl hf; exact (no_s hf).elim
    | succ n7 ih7 =>
      intro x1 x2 x3 ls hl hf
      rw [f_X5_counted_L8] at hf
      refine lv_iload hx hb dX5_counted_8 (lv_at hl 4 rfl) ?_
      refine lv_aload_n hx hb dX5_counted_10 rfl (lv_at hl 0 rfl) ?_
      refine va_get (D := D) (ci := 4) (v := .int (M 4)) (C := RX5) (T := TX5) (N := 10) hx hb hts inX5_counted_X5 hown hK hP 0 rfl rfl 4 (by decide) (hts (.fieldLink RX5 77 "BondDeskModel" "bonds" "I") (by decide +kernel)) (fun _ h9 => h9) rfl dX5_counted_11 ?_
      refine lv_icmp_ge (tgt := 54) hx hb dX5_counted_14 (by decide) (fun c8 => ?_) (fun c8 => ?_)
      · have hf := it hf c8
        exact JK4 x1 x2 ls (lv_sub hl [0, 1, 2, 3] rfl) hf
      · have hf := ie hf c8
        refine lv_lload_n hx hb dX5_counted_17 rfl (lv_at hl 2 rfl) ?_
        refine lv_aload_n hx hb dX5_counted_18 rfl (lv_at hl 0 rfl) ?_
        refine lv_iload hx hb dX5_counted_19 (lv_at hl 4 rfl) ?_
        obtain ⟨v9, hv9, hf⟩ := ob hf
        refine cSz (W.runV (As := [.int x3]) (rest := [.long x1]) ⟨hx, hb, hml, hown, hts⟩ (m_X5_isThere l D cI cJ cO hm mh mo my mp M mc mhol mof mdy mpd x3 v9 hv9) (cwV 1 hts gX5_counted_X5_isThere rfl rfl rfl (by decide +kernel) ⟨Nat.le_of_ble_eq_true rfl, Nat.le_of_ble_eq_true rfl⟩) ⟨pw_blind, va_recv hK hP (ci := 4) (q0 := 0) rfl rfl, fun U hU hW => ⟨rfl, pw_at hZ va_S.rf hP hK hU hW (Or.inr rfl) [0, 1, 2, 3, 4] rfl⟩⟩ rfl rfl hl.1 rfl (lv_room (Nat.le_of_ble_eq_true rfl)) dX5_counted_21 ⟨Nat.zero_le _, Nat.zero_le _⟩) (fun zv9 => ?_)
        obtain ⟨K10, hK10, hf⟩ := jn_s hf
        have JK10 : ∀ (x11 : Int64) (ls : Array Slot), lv_has ls 9 [(0, .ref hm), (1, .int a0), (4, .long x2), (6, .int x3)] → K10 x11 = some r → W p l e (headSpec wsX5_counted ({ frames := 6, cells := 0, slots := 0, locals := 151 })).room s m ([.ref hm, .int a0] : List Value).toArray below meth c s.heap [] 0 0 (MQ below (QSl r) ([.ref hm, .int a0] : List Value).toArray s 0 0 (fun _ => False)) (F0 m 32 ls [.long x11, .long x1]) := by
          intro x11 ls hl hf
          rw [hK10] at hf
          refine lv_ladd hx hb dX5_counted_32 ?_
          refine lv_topl (fun x12 ex12 => ?_)
          have hf := bd_s hf ex12
          refine lv_lstore_n (lv' := [(2, .long x12), (0, .ref hm), (1, .int a0), (4, .long x2), (6, .int x3)]) hx hb dX5_counted_33 rfl hl (by decide) rfl (fun ls hl => ?_)
          refine lv_lload hx hb dX5_counted_34 (lv_at hl 3 rfl) ?_
          refine lv_aload_n hx hb dX5_counted_36 rfl (lv_at hl 1 rfl) ?_
          refine lv_iload hx hb dX5_counted_37 (lv_at hl 4 rfl) ?_
          refine lv_bipush (v := 9) hx hb dX5_counted_39 (by decide) ?_
          obtain ⟨v13, hv13, hf⟩ := ob hf
          refine cSi (W.runV (As := [.int x3, .int 9]) (rest := [.long x2]) ⟨hx, hb, hml, hown, hts⟩ (m_X5_own l D cI cJ cO hm mh mo my mp M mc mhol mof mdy mpd x3 9 v13 hv13) (cwV 2 hts gX5_counted_X5_own rfl rfl rfl (by decide +kernel) ⟨Nat.le_of_ble_eq_true rfl, Nat.le_of_ble_eq_true rfl⟩) ⟨pw_blind, va_recv hK hP (ci := 4) (q0 := 0) rfl rfl, fun U hU hW => ⟨rfl, pw_at hZ va_S.rf hP hK hU hW (Or.inr rfl) [0, 1, 2, 3, 4] rfl⟩⟩ rfl rfl hl.1 rfl (lv_room (Nat.le_of_ble_eq_true rfl)) dX5_counted_41 ⟨Nat.zero_le _, Nat.zero_le _⟩) ?_
          refine lv_i2l hx hb dX5_counted_44 rfl ?_
          refine lv_ladd hx hb dX5_counted_45 ?_
          refine lv_topl (fun x14 ex14 => ?_)
          have hf := bd_s hf ex14
          refine lv_lstore (lv' := [(4, .long x14), (2, .long x12), (0, .ref hm), (1, .int a0), (6, .int x3)]) hx hb dX5_counted_46 hl (by decide) rfl (fun ls hl => ?_)
          obtain ⟨x15, ex15⟩ : ∃ y : Int32, y = x3 + 1 := ⟨_, rfl⟩
          have hf := bd_s hf ex15
          refine lv_iinc (v := x15) (lv' := [(6, .int x15), (4, .long x14), (2, .long x12), (0, .ref hm), (1, .int a0)]) hx hb dX5_counted_48 hl (k := 4) rfl (by rw [ex15]; rfl) (by decide) rfl (fun ls hl => ?_)
          refine lv_goto (tgt := 8) hx hb dX5_counted_51 (by decide) ?_
          exact ih7 x12 x14 x15 ls (lv_sub hl [3, 4, 2, 1, 0] rfl) hf
        refine lv_if_eq (tgt := 31) hx hb dX5_counted_24 (by decide) (fun c16 => ?_) (fun c16 => ?_)
        · have hf := it hf c16
          refine lv_lconst (v := 0) hx hb dX5_counted_31 (by decide) ?_
          exact JK10 0 ls (lv_sub hl [0, 1, 3, 4] rfl) hf
        · have hf := ie hf c16
          refine lv_lconst (v := 1) hx hb dX5_counted_27 (by decide) ?_
          refine lv_goto (tgt := 32) hx hb dX5_counted_28 (by decide) ?_
          exact JK10 1 ls (lv_sub hl [0, 1, 3, 4] rfl) hf
  exact LP8 N 0 0 0 ls (lv_sub hl [3, 4, 2, 1, 0] rfl) hf
