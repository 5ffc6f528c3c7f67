set_option maxHeartbeats 4000000 in
set_option maxRecDepth 100000 in
theorem m_X1_yearOf (l : Launch) (D : va_G) (cI cJ cO : ClassId) (ah : Nat) (a0 : Int32) (r : Int32) (hf : f_X1_yearOf a0 = some r) : Met l yX1_yearOf wsX1_yearOf ({ frames := 0, cells := 0, slots := 0, locals := 0 }) (va_Pc [.int a0] (pw D (ty3 cI cJ cO) (some ah) [])) (QSi r) 0 0 (fun _ => False) := by
  refine Met.ofW (cc := cX1_yearOf) (maxL := 1) (ret := (some .int)) (by decide) rfl ?_
  intro p e s m args below meth c s₁ Bd hml hv
  obtain ⟨rfl, hZ, hP, hK⟩ := hv
  have hx := Bd.exec
  have hb := Bd.bytes
  have hr := Bd.returns
  have hts := atoms_spec (ws := wsX1_yearOf) Bd.pre
  have hown : s.vm.findClass RX1 = some m.cls := findClass_of_methodNamed Bd.named
  have hlocks := Bd.notSynchronized
  have hl := lv_entry ([.int a0]) (n := 1) (Nat.le_of_ble_eq_true rfl)
  rw [lg_entry_eq]
  generalize (lg_sl ([.int a0]) ++ List.replicate (1 - (lg_sl ([.int a0])).length) Slot.unset).toArray = ls at hl ⊢
  have hl : lv_has ls 1 [(0, .int a0)] := hl
  unfold f_X1_yearOf at hf
  refine lv_iload_n hx hb dX1_yearOf_0 rfl (lv_at hl 0 rfl) ?_
  refine lv_sipush (v := 10000) hx hb dX1_yearOf_1 (by decide) ?_
  refine lv_idiv hx hb dX1_yearOf_4 (by decide) ?_
  exact W.iret hx hb hr (fun t ht _ => ⟨_, rfl, Option.some.inj hf, ht⟩) (fun q hq => absurd hq List.not_mem_nil) dX1_yearOf_5
set_option maxHeartbeats 4000000 in
set_option maxRecDepth 100000 in
theorem m_X1_monthOf (l : Launch) (D : va_G) (cI cJ cO : ClassId) (ah : Nat) (a0 : Int32) (r : Int32) (hf : f_X1_monthOf a0 = some r) : Met l yX1_monthOf wsX1_monthOf ({ frames := 0, cells := 0, slots := 0, locals := 0 }) (va_Pc [.int a0] (pw D (ty3 cI cJ cO) (some ah) [])) (QSi r) 0 0 (fun _ => False) := by
  refine Met.ofW (cc := cX1_monthOf) (maxL := 1) (ret := (some .int)) (by decide) rfl ?_
  intro p e s m args below meth c s₁ Bd hml hv
  obtain ⟨rfl, hZ, hP, hK⟩ := hv
  have hx := Bd.exec
  have hb := Bd.bytes
  have hr := Bd.returns
  have hts := atoms_spec (ws := wsX1_monthOf) Bd.pre
  have hown : s.vm.findClass RX1 = some m.cls := findClass_of_methodNamed Bd.named
  have hlocks := Bd.notSynchronized
  have hl := lv_entry ([.int a0]) (n := 1) (Nat.le_of_ble_eq_true rfl)
  rw [lg_entry_eq]
  generalize (lg_sl ([.int a0]) ++ List.replicate (1 - (lg_sl ([.int a0])).length) Slot.unset).toArray = ls at hl ⊢
  have hl : lv_has ls 1 [(0, .int a0)] := hl
  unfold f_X1_monthOf at hf
  refine lv_iload_n hx hb dX1_monthOf_0 rfl (lv_at hl 0 rfl) ?_
  refine lv_bipush (v := 100) hx hb dX1_monthOf_1 (by decide) ?_
  refine lv_idiv hx hb dX1_monthOf_3 (by decide) ?_
  refine lv_bipush (v := 100) hx hb dX1_monthOf_4 (by decide) ?_
  refine lv_irem hx hb dX1_monthOf_6 (by decide) ?_
  exact W.iret hx hb hr (fun t ht _ => ⟨_, rfl, Option.some.inj hf, ht⟩) (fun q hq => absurd hq List.not_mem_nil) dX1_monthOf_7
set_option maxHeartbeats 4000000 in
set_option maxRecDepth 100000 in
theorem m_X1_dayOf (l : Launch) (D : va_G) (cI cJ cO : ClassId) (ah : Nat) (a0 : Int32) (r : Int32) (hf : f_X1_dayOf a0 = some r) : Met l yX1_dayOf wsX1_dayOf ({ frames := 0, cells := 0, slots := 0, locals := 0 }) (va_Pc [.int a0] (pw D (ty3 cI cJ cO) (some ah) [])) (QSi r) 0 0 (fun _ => False) := by
  refine Met.ofW (cc := cX1_dayOf) (maxL := 1) (ret := (some .int)) (by decide) rfl ?_
  intro p e s m args below meth c s₁ Bd hml hv
  obtain ⟨rfl, hZ, hP, hK⟩ := hv
  have hx := Bd.exec
  have hb := Bd.bytes
  have hr := Bd.returns
  have hts := atoms_spec (ws := wsX1_dayOf) Bd.pre
  have hown : s.vm.findClass RX1 = some m.cls := findClass_of_methodNamed Bd.named
  have hlocks := Bd.notSynchronized
  have hl := lv_entry ([.int a0]) (n := 1) (Nat.le_of_ble_eq_true rfl)
  rw [lg_entry_eq]
  generalize (lg_sl ([.int a0]) ++ List.replicate (1 - (lg_sl ([.int a0])).length) Slot.unset).toArray = ls at hl ⊢
  have hl : lv_has ls 1 [(0, .int a0)] := hl
  unfold f_X1_dayOf at hf
  refine lv_iload_n hx hb dX1_dayOf_0 rfl (lv_at hl 0 rfl) ?_
  refine lv_bipush (v := 100) hx hb dX1_dayOf_1 (by decide) ?_
  refine lv_irem hx hb dX1_dayOf_3 (by decide) ?_
  exact W.iret hx hb hr (fun t ht _ => ⟨_, rfl, Option.some.inj hf, ht⟩) (fun q hq => absurd hq List.not_mem_nil) dX1_dayOf_4
set_option maxHeartbeats 4000000 in
set_option maxRecDepth 100000 in
theorem m_X1_monthLength (l : Launch) (D : va_G) (cI cJ cO : ClassId) (ah : Nat) (a0 : Int32) (a1 : Int32) (r : Int32) (hf : f_X1_monthLength a0 a1 = some r) : Met l yX1_monthLength wsX1_monthLength ({ frames := 0, cells := 0, slots := 0, locals := 0 }) (va_Pc [.int a0, .int a1] (pw D (ty3 cI cJ cO) (some ah) [])) (QSi r) 0 0 (fun _ => False) := by
  refine Met.ofW (cc := cX1_monthLength) (maxL := 2) (ret := (some .int)) (by decide) rfl ?_
  intro p e s m args below meth c s₁ Bd hml hv
  obtain ⟨rfl, hZ, hP, hK⟩ := hv
  have hx := Bd.exec
  have hb := Bd.bytes
  have hr := Bd.returns
  have hts := atoms_spec (ws := wsX1_monthLength) Bd.pre
  have hown : s.vm.findClass RX1 = some m.cls := findClass_of_methodNamed Bd.named
  have hlocks := Bd.notSynchronized
  have hl := lv_entry ([.int a0, .int a1]) (n := 2) (Nat.le_of_ble_eq_true rfl)
  rw [lg_entry_eq]
  generalize (lg_sl ([.int a0, .int a1]) ++ List.replicate (2 - (lg_sl ([.int a0, .int a1])).length) Slot.unset).toArray = ls at hl ⊢
  have hl : lv_has ls 2 [(0, .int a0), (1, .int a1)] := hl
  unfold f_X1_monthLength at hf
  refine lv_iload_n hx hb dX1_monthLength_0 rfl (lv_at hl 1 rfl) ?_
  refine lv_iconst (v := 2) hx hb dX1_monthLength_1 (by decide) ?_
  refine lv_icmp_ne (tgt := 19) hx hb dX1_monthLength_2 (by decide) (fun c1 => ?_) (fun c1 => ?_)
  · have hf := ie hf c1
    refine lv_iload_n hx hb dX1_monthLength_19 rfl (lv_at hl 1 rfl) ?_
    refine lv_iconst (v := 4) hx hb dX1_monthLength_20 (by decide) ?_
    refine lv_icmp_eq (tgt := 42) hx hb dX1_monthLength_21 (by decide) (fun c2 => ?_) (fun c2 => ?_)
    · have hf := it hf c2
      refine lv_bipush (v := 30) hx hb dX1_monthLength_42 (by decide) ?_
      refine lv_goto (tgt := 49) hx hb dX1_monthLength_44 (by decide) ?_
      exact W.iret hx hb hr (fun t ht _ => ⟨_, rfl, Option.some.inj hf, ht⟩) (fun q hq => absurd hq List.not_mem_nil) dX1_monthLength_49
    · have hf := ie hf c2
      refine lv_iload_n hx hb dX1_monthLength_24 rfl (lv_at hl 1 rfl) ?_
      refine lv_bipush (v := 6) hx hb dX1_monthLength_25 (by decide) ?_
      refine lv_icmp_eq (tgt := 42) hx hb dX1_monthLength_27 (by decide) (fun c3 => ?_) (fun c3 => ?_)
      · have hf := it hf c3
        refine lv_bipush (v := 30) hx hb dX1_monthLength_42 (by decide) ?_
        refine lv_goto (tgt := 49) hx hb dX1_monthLength_44 (by decide) ?_
        exact W.iret hx hb hr (fun t ht _ => ⟨_, rfl, Option.some.inj hf, ht⟩) (fun q hq => absurd hq List.not_mem_nil) dX1_monthLength_49
      · have hf := ie hf c3
        refine lv_iload_n hx hb dX1_monthLength_30 rfl (lv_at hl 1 rfl) ?_
        refine lv_bipush (v := 9) hx hb dX1_monthLength_31 (by decide) ?_
        refine lv_icmp_eq (tgt := 42) hx hb dX1_monthLength_33 (by decide) (fun c4 => ?_) (fun c4 => ?_)
        · have hf := it hf c4
          refine lv_bipush (v := 30) hx hb dX1_monthLength_42 (by decide) ?_
          refine lv_goto (tgt := 49) hx hb dX1_monthLength_44 (by decide) ?_
          exact W.iret hx hb hr (fun t ht _ => ⟨_, rfl, Option.some.inj hf, ht⟩) (fun q hq => absurd hq List.not_mem_nil) dX1_monthLength_49
        · have hf := ie hf c4
          refine lv_iload_n hx hb dX1_monthLength_36 rfl (lv_at hl 1 rfl) ?_
          refine lv_bipush (v := 11) hx hb dX1_monthLength_37 (by decide) ?_
          refine lv_icmp_ne (tgt := 47) hx hb dX1_monthLength_39 (by decide) (fun c5 => ?_) (fun c5 => ?_)
          · have hf := ie hf c5
            refine lv_bipush (v := 31) hx hb dX1_monthLength_47 (by decide) ?_
            exact W.iret hx hb hr (fun t ht _ => ⟨_, rfl, Option.some.inj hf, ht⟩) (fun q hq => absurd hq List.not_mem_nil) dX1_monthLength_49
          · have hf := it hf c5
            refine lv_bipush (v := 30) hx hb dX1_monthLength_42 (by decide) ?_
            refine lv_goto (tgt := 49) hx hb dX1_monthLength_44 (by decide) ?_
            exact W.iret hx hb hr (fun t ht _ => ⟨_, rfl, Option.some.inj hf, ht⟩) (fun q hq => absurd hq List.not_mem_nil) dX1_monthLength_49
  · have hf := it hf c1
    refine lv_iload_n hx hb dX1_monthLength_5 rfl (lv_at hl 0 rfl) ?_
    refine lv_iconst (v := 4) hx hb dX1_monthLength_6 (by decide) ?_
    refine lv_irem hx hb dX1_monthLength_7 (by decide) ?_
    refine lv_if_ne (tgt := 16) hx hb dX1_monthLength_8 (by decide) (fun c6 => ?_) (fun c6 => ?_)
    · have hf := ie hf c6
      refine lv_bipush (v := 28) hx hb dX1_monthLength_16 (by decide) ?_
      exact W.iret hx hb hr (fun t ht _ => ⟨_, rfl, Option.some.inj hf, ht⟩) (fun q hq => absurd hq List.not_mem_nil) dX1_monthLength_18
    · have hf := it hf c6
      refine lv_bipush (v := 29) hx hb dX1_monthLength_11 (by decide) ?_
      refine lv_goto (tgt := 18) hx hb dX1_monthLength_13 (by decide) ?_
      exact W.iret hx hb hr (fun t ht _ => ⟨_, rfl, Option.some.inj hf, ht⟩) (fun q hq => absurd hq List.not_mem_nil) dX1_monthLength_18
set_option maxHeartbeats 4000000 in
set_option maxRecDepth 100000 in
theorem m_X1_isDate (l : Launch) (D : va_G) (cI cJ cO : ClassId) (ah : Nat) (a0 : Int32) (r : Int32) (hf : f_X1_isDate a0 = some r) : Met l yX1_isDate wsX1_isDate ({ frames := 1, cells := 0, slots := 0, locals := 21 }) (va_Pc [.int a0] (pw D (ty3 cI cJ cO) (some ah) [])) (QSz r) 0 0 (fun _ => False) := by
  refine Met.ofW (cc := cX1_isDate) (maxL := 3) (ret := (some .boolean)) (by decide) rfl ?_
  intro p e s m args below meth c s₁ Bd hml hv
  obtain ⟨rfl, hZ, hP, hK⟩ := hv
  have hx := Bd.exec
  have hb := Bd.bytes
  have hr := Bd.returns
  have hts := atoms_spec (ws := wsX1_isDate) Bd.pre
  have hown : s.vm.findClass RX1 = some m.cls := findClass_of_methodNamed Bd.named
  have hlocks := Bd.notSynchronized
  have hl := lv_entry ([.int a0]) (n := 3) (Nat.le_of_ble_eq_true rfl)
  rw [lg_entry_eq]
  generalize (lg_sl ([.int a0]) ++ List.replicate (3 - (lg_sl ([.int a0])).length) Slot.unset).toArray = ls at hl ⊢
  have hl : lv_has ls 3 [(0, .int a0)] := hl
  unfold f_X1_isDate at hf
  refine lv_iload_n hx hb dX1_isDate_0 rfl (lv_at hl 0 rfl) ?_
  refine lv_ldc hx hb hown (hts (.constant RX1 11 (20160101)) (by decide +kernel)) dX1_isDate_1 ?_
  refine lv_icmp_lt (tgt := 12) hx hb dX1_isDate_3 (by decide) (fun c1 => ?_) (fun c1 => ?_)
  · have hf := it hf c1
    refine lv_iconst (v := 0) hx hb dX1_isDate_12 (by decide) ?_
    exact W.zret hx hb hr (zn (Or.inl rfl)) (fun t ht _ => ⟨_, rfl, ⟨Option.some.inj hf, (Or.inl rfl)⟩, ht⟩) (fun q hq => absurd hq List.not_mem_nil) dX1_isDate_13
  · have hf := ie hf c1
    refine lv_iload_n hx hb dX1_isDate_6 rfl (lv_at hl 0 rfl) ?_
    refine lv_ldc hx hb hown (hts (.constant RX1 12 (20661231)) (by decide +kernel)) dX1_isDate_7 ?_
    refine lv_icmp_le (tgt := 14) hx hb dX1_isDate_9 (by decide) (fun c2 => ?_) (fun c2 => ?_)
    · have hf := it hf c2
      refine lv_iload_n hx hb dX1_isDate_14 rfl (lv_at hl 0 rfl) ?_
      obtain ⟨v3, hv3, hf⟩ := ob hf
      refine cSi (W.runS (As := [.int a0]) (rest := []) ⟨hx, hb, hml, hown, hts⟩ (m_X1_monthOf l D cI cJ cO ah a0 v3 hv3) (va_cwS 1 hts gX1_isDate_X1_monthOf rfl rfl rfl (by decide +kernel) ⟨(Nat.le_of_ble_eq_true rfl), (Nat.le_of_ble_eq_true rfl)⟩) ⟨pw_blind, fun U hU hW => ⟨rfl, pw_at hZ va_S.rf hP hK hU hW (Or.inr rfl) [] rfl⟩⟩ rfl rfl hl.1 rfl (lv_room (Nat.le_of_ble_eq_true rfl)) dX1_isDate_15 ⟨(Nat.le_of_ble_eq_true rfl), (Nat.le_of_ble_eq_true rfl)⟩) ?_
      refine lv_istore_n (lv' := [(1, .int v3), (0, .int a0)]) hx hb dX1_isDate_18 rfl hl (by decide) rfl (fun ls hl => ?_)
      refine lv_iload_n hx hb dX1_isDate_19 rfl (lv_at hl 1 rfl) ?_
      obtain ⟨v4, hv4, hf⟩ := ob hf
      refine cSi (W.runS (As := [.int a0]) (rest := []) ⟨hx, hb, hml, hown, hts⟩ (m_X1_dayOf l D cI cJ cO ah a0 v4 hv4) (va_cwS 1 hts gX1_isDate_X1_dayOf rfl rfl rfl (by decide +kernel) ⟨(Nat.le_of_ble_eq_true rfl), (Nat.le_of_ble_eq_true rfl)⟩) ⟨pw_blind, fun U hU hW => ⟨rfl, pw_at hZ va_S.rf hP hK hU hW (Or.inr rfl) [] rfl⟩⟩ rfl rfl hl.1 rfl (lv_room (Nat.le_of_ble_eq_true rfl)) dX1_isDate_20 ⟨(Nat.le_of_ble_eq_true rfl), (Nat.le_of_ble_eq_true rfl)⟩) ?_
      refine lv_istore_n (lv' := [(2, .int v4), (1, .int v3), (0, .int a0)]) hx hb dX1_isDate_23 rfl hl (by decide) rfl (fun ls hl => ?_)
      refine lv_iload_n hx hb dX1_isDate_24 rfl (lv_at hl 1 rfl) ?_
      refine lv_iconst (v := 1) hx hb dX1_isDate_25 (by decide) ?_
      refine lv_icmp_lt (tgt := 56) hx hb dX1_isDate_26 (by decide) (fun c5 => ?_) (fun c5 => ?_)
      · have hf := it hf c5
        refine lv_iconst (v := 0) hx hb dX1_isDate_56 (by decide) ?_
        exact W.zret hx hb hr (zn (Or.inl rfl)) (fun t ht _ => ⟨_, rfl, ⟨Option.some.inj hf, (Or.inl rfl)⟩, ht⟩) (fun q hq => absurd hq List.not_mem_nil) dX1_isDate_57
      · have hf := ie hf c5
        refine lv_iload_n hx hb dX1_isDate_29 rfl (lv_at hl 1 rfl) ?_
        refine lv_bipush (v := 12) hx hb dX1_isDate_30 (by decide) ?_
        refine lv_icmp_gt (tgt := 56) hx hb dX1_isDate_32 (by decide) (fun c6 => ?_) (fun c6 => ?_)
        · have hf := it hf c6
          refine lv_iconst (v := 0) hx hb dX1_isDate_56 (by decide) ?_
          exact W.zret hx hb hr (zn (Or.inl rfl)) (fun t ht _ => ⟨_, rfl, ⟨Option.some.inj hf, (Or.inl rfl)⟩, ht⟩) (fun q hq => absurd hq List.not_mem_nil) dX1_isDate_57
        · have hf := ie hf c6
          refine lv_iload_n hx hb dX1_isDate_35 rfl (lv_at hl 0 rfl) ?_
          refine lv_iconst (v := 1) hx hb dX1_isDate_36 (by decide) ?_
          refine lv_icmp_lt (tgt := 56) hx hb dX1_isDate_37 (by decide) (fun c7 => ?_) (fun c7 => ?_)
          · have hf := it hf c7
            refine lv_iconst (v := 0) hx hb dX1_isDate_56 (by decide) ?_
            exact W.zret hx hb hr (zn (Or.inl rfl)) (fun t ht _ => ⟨_, rfl, ⟨Option.some.inj hf, (Or.inl rfl)⟩, ht⟩) (fun q hq => absurd hq List.not_mem_nil) dX1_isDate_57
          · have hf := ie hf c7
            refine lv_iload_n hx hb dX1_isDate_40 rfl (lv_at hl 0 rfl) ?_
            refine lv_iload_n hx hb dX1_isDate_41 rfl (lv_at hl 2 rfl) ?_
            obtain ⟨v8, hv8, hf⟩ := ob hf
            refine cSi (W.runS (As := [.int a0]) (rest := [.int v4]) ⟨hx, hb, hml, hown, hts⟩ (m_X1_yearOf l D cI cJ cO ah a0 v8 hv8) (va_cwS 1 hts gX1_isDate_X1_yearOf rfl rfl rfl (by decide +kernel) ⟨(Nat.le_of_ble_eq_true rfl), (Nat.le_of_ble_eq_true rfl)⟩) ⟨pw_blind, fun U hU hW => ⟨rfl, pw_at hZ va_S.rf hP hK hU hW (Or.inr rfl) [] rfl⟩⟩ rfl rfl hl.1 rfl (lv_room (Nat.le_of_ble_eq_true rfl)) dX1_isDate_42 ⟨(Nat.le_of_ble_eq_true rfl), (Nat.le_of_ble_eq_true rfl)⟩) ?_
            refine lv_iload_n hx hb dX1_isDate_45 rfl (lv_at hl 1 rfl) ?_
            obtain ⟨v9, hv9, hf⟩ := ob hf
            refine cSi (W.runS (As := [.int v8, .int v3]) (rest := [.int v4]) ⟨hx, hb, hml, hown, hts⟩ (m_X1_monthLength l D cI cJ cO ah v8 v3 v9 hv9) (va_cwS 2 hts gX1_isDate_X1_monthLength rfl rfl rfl (by decide +kernel) ⟨(Nat.le_of_ble_eq_true rfl), (Nat.le_of_ble_eq_true rfl)⟩) ⟨pw_blind, fun U hU hW => ⟨rfl, pw_at hZ va_S.rf hP hK hU hW (Or.inr rfl) [] rfl⟩⟩ rfl rfl hl.1 rfl (lv_room (Nat.le_of_ble_eq_true rfl)) dX1_isDate_46 ⟨(Nat.le_of_ble_eq_true rfl), (Nat.le_of_ble_eq_true rfl)⟩) ?_
            refine lv_icmp_gt (tgt := 56) hx hb dX1_isDate_49 (by decide) (fun c10 => ?_) (fun c10 => ?_)
            · have hf := it hf c10
              refine lv_iconst (v := 0) hx hb dX1_isDate_56 (by decide) ?_
              exact W.zret hx hb hr (zn (Or.inl rfl)) (fun t ht _ => ⟨_, rfl, ⟨Option.some.inj hf, (Or.inl rfl)⟩, ht⟩) (fun q hq => absurd hq List.not_mem_nil) dX1_isDate_57
            · have hf := ie hf c10
              refine lv_iconst (v := 1) hx hb dX1_isDate_52 (by decide) ?_
              refine lv_goto (tgt := 57) hx hb dX1_isDate_53 (by decide) ?_
              exact W.zret hx hb hr (zn (Or.inr rfl)) (fun t ht _ => ⟨_, rfl, ⟨Option.some.inj hf, (Or.inr rfl)⟩, ht⟩) (fun q hq => absurd hq List.not_mem_nil) dX1_isDate_57
    · have hf := ie hf c2
      refine lv_iconst (v := 0) hx hb dX1_isDate_12 (by decide) ?_
      exact W.zret hx hb hr (zn (Or.inl rfl)) (fun t ht _ => ⟨_, rfl, ⟨Option.some.inj hf, (Or.inl rfl)⟩, ht⟩) (fun q hq => absurd hq List.not_mem_nil) dX1_isDate_13
set_option maxHeartbeats 4000000 in
set_option maxRecDepth 100000 in
theorem m_X1_dayNumber (l : Launch) (D : va_G) (cI cJ cO : ClassId) (ah : Nat) (a0 : Int32) (r : Int32) (hf : f_X1_dayNumber a0 = some r) : Met l yX1_dayNumber wsX1_dayNumber ({ frames := 0, cells := 0, slots := 0, locals := 0 }) (va_Pc [.int a0] (pw D (ty3 cI cJ cO) (some ah) [])) (QSi r) 0 0 (fun _ => False) := by
  refine Met.ofW (cc := cX1_dayNumber) (maxL := 5) (ret := (some .int)) (by decide) rfl ?_
  intro p e s m args below meth c s₁ Bd hml hv
  obtain ⟨rfl, hZ, hP, hK⟩ := hv
  have hx := Bd.exec
  have hb := Bd.bytes
  have hr := Bd.returns
  have hts := atoms_spec (ws := wsX1_dayNumber) Bd.pre
  have hown : s.vm.findClass RX1 = some m.cls := findClass_of_methodNamed Bd.named
  have hlocks := Bd.notSynchronized
  have hl := lv_entry ([.int a0]) (n := 5) (Nat.le_of_ble_eq_true rfl)
  rw [lg_entry_eq]
  generalize (lg_sl ([.int a0]) ++ List.replicate (5 - (lg_sl ([.int a0])).length) Slot.unset).toArray = ls at hl ⊢
  have hl : lv_has ls 5 [(0, .int a0)] := hl
  unfold f_X1_dayNumber at hf
  refine lv_iload_n hx hb dX1_dayNumber_0 rfl (lv_at hl 0 rfl) ?_
  refine lv_sipush (v := 10000) hx hb dX1_dayNumber_1 (by decide) ?_
  refine lv_idiv hx hb dX1_dayNumber_4 (by decide) ?_
  refine lv_sipush (v := 2016) hx hb dX1_dayNumber_5 (by decide) ?_
  refine lv_isub hx hb dX1_dayNumber_8 ?_
  refine lv_topi (fun x1 ex1 => ?_)
  have hf := bd_s hf ex1
  refine lv_istore_n (lv' := [(1, .int x1), (0, .int a0)]) hx hb dX1_dayNumber_9 rfl hl (by decide) rfl (fun ls hl => ?_)
  refine lv_iload_n hx hb dX1_dayNumber_10 rfl (lv_at hl 1 rfl) ?_
  refine lv_bipush (v := 100) hx hb dX1_dayNumber_11 (by decide) ?_
  refine lv_idiv hx hb dX1_dayNumber_13 (by decide) ?_
  refine lv_bipush (v := 100) hx hb dX1_dayNumber_14 (by decide) ?_
  refine lv_irem hx hb dX1_dayNumber_16 (by decide) ?_
  refine lv_topi (fun x2 ex2 => ?_)
  have hf := bd_s hf ex2
  refine lv_istore_n (lv' := [(2, .int x2), (1, .int x1), (0, .int a0)]) hx hb dX1_dayNumber_17 rfl hl (by decide) rfl (fun ls hl => ?_)
  refine lv_iload_n hx hb dX1_dayNumber_18 rfl (lv_at hl 0 rfl) ?_
  refine lv_iconst (v := 1) hx hb dX1_dayNumber_19 (by decide) ?_
  obtain ⟨K3, hK3, hf⟩ := jn_s hf
  have JK3 : ∀ (x4 : Int32) (ls : Array Slot), lv_has ls 5 [(0, .int a0), (1, .int x1), (2, .int x2)] → K3 x4 = some r → W p l e (headSpec wsX1_dayNumber ({ frames := 0, cells := 0, slots := 0, locals := 0 })).room s m ([.int a0] : List Value).toArray below meth c s.heap [] 0 0 (MQ below (QSi r) ([.int a0] : List Value).toArray s 0 0 (fun _ => False)) (F0 m 42 ls [.int x4]) := by
    intro x4 ls hl hf
    rw [hK3] at hf
    refine lv_istore_n (lv' := [(3, .int x4), (0, .int a0), (1, .int x1), (2, .int x2)]) hx hb dX1_dayNumber_42 rfl hl (by decide) rfl (fun ls hl => ?_)
    refine lv_iload_n hx hb dX1_dayNumber_43 rfl (lv_at hl 3 rfl) ?_
    refine lv_iconst (v := 2) hx hb dX1_dayNumber_44 (by decide) ?_
    obtain ⟨K5, hK5, hf⟩ := jn_s hf
    have JK5 : ∀ (x6 : Int32) (ls : Array Slot), lv_has ls 5 [(0, .int a0), (1, .int x1), (3, .int x4)] → K5 x6 = some r → W p l e (headSpec wsX1_dayNumber ({ frames := 0, cells := 0, slots := 0, locals := 0 })).room s m ([.int a0] : List Value).toArray below meth c s.heap [] 0 0 (MQ below (QSi r) ([.int a0] : List Value).toArray s 0 0 (fun _ => False)) (F0 m 59 ls [.int x6]) := by
      intro x6 ls hl hf
      rw [hK5] at hf
      refine lv_istore (lv' := [(4, .int x6), (0, .int a0), (1, .int x1), (3, .int x4)]) hx hb dX1_dayNumber_59 hl (by decide) rfl (fun ls hl => ?_)
      refine lv_sipush (v := 365) hx hb dX1_dayNumber_61 (by decide) ?_
      refine lv_iload_n hx hb dX1_dayNumber_64 rfl (lv_at hl 2 rfl) ?_
      refine lv_imul hx hb dX1_dayNumber_65 ?_
      refine lv_iload_n hx hb dX1_dayNumber_66 rfl (lv_at hl 2 rfl) ?_
      refine lv_iconst (v := 3) hx hb dX1_dayNumber_67 (by decide) ?_
      refine lv_iadd hx hb dX1_dayNumber_68 ?_
      refine lv_iconst (v := 4) hx hb dX1_dayNumber_69 (by decide) ?_
      refine lv_idiv hx hb dX1_dayNumber_70 (by decide) ?_
      refine lv_iadd hx hb dX1_dayNumber_71 ?_
      refine lv_iload_n hx hb dX1_dayNumber_72 rfl (lv_at hl 3 rfl) ?_
      refine lv_iadd hx hb dX1_dayNumber_73 ?_
      refine lv_iload hx hb dX1_dayNumber_74 (lv_at hl 0 rfl) ?_
      refine lv_iadd hx hb dX1_dayNumber_76 ?_
      refine lv_iload_n hx hb dX1_dayNumber_77 rfl (lv_at hl 1 rfl) ?_
      refine lv_bipush (v := 100) hx hb dX1_dayNumber_78 (by decide) ?_
      refine lv_irem hx hb dX1_dayNumber_80 (by decide) ?_
      refine lv_iadd hx hb dX1_dayNumber_81 ?_
      refine lv_iconst (v := 1) hx hb dX1_dayNumber_82 (by decide) ?_
      refine lv_isub hx hb dX1_dayNumber_83 ?_
      exact W.iret hx hb hr (fun t ht _ => ⟨_, rfl, Option.some.inj hf, ht⟩) (fun q hq => absurd hq List.not_mem_nil) dX1_dayNumber_84
    obtain ⟨K7, hK7, hf⟩ := jn_s hf
    have JK7 : ∀  (ls : Array Slot), lv_has ls 5 [(0, .int a0), (1, .int x1), (3, .int x4)] → K7 () = some r → W p l e (headSpec wsX1_dayNumber ({ frames := 0, cells := 0, slots := 0, locals := 0 })).room s m ([.int a0] : List Value).toArray below meth c s.heap [] 0 0 (MQ below (QSi r) ([.int a0] : List Value).toArray s 0 0 (fun _ => False)) (F0 m 58 ls []) := by
      intro  ls hl hf
      rw [hK7] at hf
      refine lv_iconst (v := 0) hx hb dX1_dayNumber_58 (by decide) ?_
      exact JK5 0 ls (lv_sub hl [0, 1, 2] rfl) hf
    refine lv_icmp_le (tgt := 58) hx hb dX1_dayNumber_45 (by decide) (fun c8 => ?_) (fun c8 => ?_)
    · have hf := it hf c8
      exact JK7  ls (lv_sub hl [1, 2, 0] rfl) hf
    · have hf := ie hf c8
      refine lv_iload_n hx hb dX1_dayNumber_48 rfl (lv_at hl 2 rfl) ?_
      refine lv_iconst (v := 4) hx hb dX1_dayNumber_49 (by decide) ?_
      refine lv_irem hx hb dX1_dayNumber_50 (by decide) ?_
      refine lv_if_ne (tgt := 58) hx hb dX1_dayNumber_51 (by decide) (fun c9 => ?_) (fun c9 => ?_)
      · have hf := ie hf c9
        exact JK7  ls (lv_sub hl [1, 2, 0] rfl) hf
      · have hf := it hf c9
        refine lv_iconst (v := 1) hx hb dX1_dayNumber_54 (by decide) ?_
        refine lv_goto (tgt := 59) hx hb dX1_dayNumber_55 (by decide) ?_
        exact JK5 1 ls (lv_sub hl [1, 2, 0] rfl) hf
  obtain ⟨K10, hK10, hf⟩ := jn_s hf
  have JK10 : ∀  (ls : Array Slot), lv_has ls 5 [(0, .int a0), (1, .int x1), (2, .int x2)] → K10 () = some r → W p l e (headSpec wsX1_dayNumber ({ frames := 0, cells := 0, slots := 0, locals := 0 })).room s m ([.int a0] : List Value).toArray below meth c s.heap [] 0 0 (MQ below (QSi r) ([.int a0] : List Value).toArray s 0 0 (fun _ => False)) (F0 m 41 ls []) := by
    intro  ls hl hf
    rw [hK10] at hf
    refine lv_iconst (v := 0) hx hb dX1_dayNumber_41 (by decide) ?_
    exact JK3 0 ls (lv_sub hl [0, 1, 2] rfl) hf
  refine lv_icmp_lt (tgt := 41) hx hb dX1_dayNumber_20 (by decide) (fun c11 => ?_) (fun c11 => ?_)
  · have hf := it hf c11
    exact JK10  ls (lv_sub hl [2, 1, 0] rfl) hf
  · have hf := ie hf c11
    refine lv_iload_n hx hb dX1_dayNumber_23 rfl (lv_at hl 0 rfl) ?_
    refine va_gets hx hb (hZ ah rfl).1 va_S.rf hown (hts (.fieldLink RX1 27 "BondDesk$Dates" "AHEAD" "[I") (by decide +kernel)) (fun _ h9 => h9) dX1_dayNumber_24 ?_
    refine va_tlen (v := 12) hx hb (hZ ah rfl).2 va_S.rf rfl dX1_dayNumber_27 ?_
    refine lv_icmp_gt (tgt := 41) hx hb dX1_dayNumber_28 (by decide) (fun c12 => ?_) (fun c12 => ?_)
    · have hf := it hf c12
      exact JK10  ls (lv_sub hl [2, 1, 0] rfl) hf
    · have hf := ie hf c12
      refine va_gets hx hb (hZ ah rfl).1 va_S.rf hown (hts (.fieldLink RX1 27 "BondDesk$Dates" "AHEAD" "[I") (by decide +kernel)) (fun _ h9 => h9) dX1_dayNumber_31 ?_
      refine lv_iload_n hx hb dX1_dayNumber_34 rfl (lv_at hl 0 rfl) ?_
      refine lv_iconst (v := 1) hx hb dX1_dayNumber_35 (by decide) ?_
      refine lv_isub hx hb dX1_dayNumber_36 ?_
      refine lv_topi (fun x13 ex13 => ?_)
      have hf := bd_s hf ex13
      obtain ⟨c14, hf⟩ := gd_s hf
      refine va_ti hx hb (hZ ah rfl).2 va_S.rf c14 rfl dX1_dayNumber_37 ?_
      refine lv_goto (tgt := 42) hx hb dX1_dayNumber_38 (by decide) ?_
      exact JK3 (ahd x13.toNatClampNeg) ls (lv_sub hl [2, 1, 0] rfl) hf
set_option maxHeartbeats 4000000 in
set_option maxRecDepth 100000 in
theorem m_X1_dateOf (l : Launch) (D : va_G) (cI cJ cO : ClassId) (ah : Nat) (a0 : Int32) (N : Nat) (r : Int32) (hf : f_X1_dateOf N a0 = some r) : Met l yX1_dateOf wsX1_dateOf ({ frames := 1, cells := 0, slots := 0, locals := 21 }) (va_Pc [.int a0] (pw D (ty3 cI cJ cO) (some ah) [])) (QSi r) 0 0 (fun _ => False) := by
  refine Met.ofW (cc := cX1_dateOf) (maxL := 5) (ret := (some .int)) (by decide) rfl ?_
  intro p e s m args below meth c s₁ Bd hml hv
  obtain ⟨rfl, hZ, hP, hK⟩ := hv
  have hx := Bd.exec
  have hb := Bd.bytes
  have hr := Bd.returns
  have hts := atoms_spec (ws := wsX1_dateOf) Bd.pre
  have hown : s.vm.findClass RX1 = some m.cls := findClass_of_methodNamed Bd.named
  have hlocks := Bd.notSynchronized
  have hl := lv_entry ([.int a0]) (n := 5) (Nat.le_of_ble_eq_true rfl)
  rw [lg_entry_eq]
  generalize (lg_sl ([.int a0]) ++ List.replicate (5 - (lg_sl ([.int a0])).length) Slot.unset).toArray = ls at hl ⊢
  have hl : lv_has ls 5 [(0, .int a0)] := hl
  unfold f_X1_dateOf at hf
  refine lv_iconst (v := 4) hx hb dX1_dateOf_0 (by decide) ?_
  refine lv_iload_n hx hb dX1_dateOf_1 rfl (lv_at hl 0 rfl) ?_
  refine lv_imul hx hb dX1_dateOf_2 ?_
  refine lv_sipush (v := 1461) hx hb dX1_dateOf_3 (by decide) ?_
  refine lv_idiv hx hb dX1_dateOf_6 (by decide) ?_
  refine lv_topi (fun x1 ex1 => ?_)
  have hf := bd_s hf ex1
  refine lv_istore_n (lv' := [(1, .int x1), (0, .int a0)]) hx hb dX1_dateOf_7 rfl hl (by decide) rfl (fun ls hl => ?_)
  refine lv_sipush (v := 2016) hx hb dX1_dateOf_8 (by decide) ?_
  refine lv_iload_n hx hb dX1_dateOf_11 rfl (lv_at hl 0 rfl) ?_
  refine lv_iadd hx hb dX1_dateOf_12 ?_
  refine lv_topi (fun x2 ex2 => ?_)
  have hf := bd_s hf ex2
  refine lv_istore_n (lv' := [(2, .int x2), (1, .int x1), (0, .int a0)]) hx hb dX1_dateOf_13 rfl hl (by decide) rfl (fun ls hl => ?_)
  refine lv_iload_n hx hb dX1_dateOf_14 rfl (lv_at hl 2 rfl) ?_
  refine lv_sipush (v := 365) hx hb dX1_dateOf_15 (by decide) ?_
  refine lv_iload_n hx hb dX1_dateOf_18 rfl (lv_at hl 1 rfl) ?_
  refine lv_imul hx hb dX1_dateOf_19 ?_
  refine lv_isub hx hb dX1_dateOf_20 ?_
  refine lv_iload_n hx hb dX1_dateOf_21 rfl (lv_at hl 1 rfl) ?_
  refine lv_iconst (v := 3) hx hb dX1_dateOf_22 (by decide) ?_
  refine lv_iadd hx hb dX1_dateOf_23 ?_
  refine lv_iconst (v := 4) hx hb dX1_dateOf_24 (by decide) ?_
  refine lv_idiv hx hb dX1_dateOf_25 (by decide) ?_
  refine lv_isub hx hb dX1_dateOf_26 ?_
  refine lv_topi (fun x3 ex3 => ?_)
  have hf := bd_s hf ex3
  refine lv_istore_n (lv' := [(3, .int x3), (2, .int x2), (1, .int x1), (0, .int a0)]) hx hb dX1_dateOf_27 rfl hl (by decide) rfl (fun ls hl => ?_)
  refine lv_iconst (v := 1) hx hb dX1_dateOf_28 (by decide) ?_
  refine lv_istore (lv' := [(4, .int 1), (3, .int x3), (2, .int x2), (1, .int x1), (0, .int a0)]) hx hb dX1_dateOf_29 hl (by decide) rfl (fun ls hl => ?_)
  obtain ⟨K6, hK6, hf⟩ := kx_s (P := fun k => f_X1_dateOf_L31 x2 k N x3 1 = some r) hf
  have JK6 : ∀ (x7 : Int32) (x8 : Int32) (ls : Array Slot), lv_has ls 5 [(2, .int x2), (3, .int x7), (4, .int x8)] → K6 x7 x8 = some r → W p l e (headSpec wsX1_dateOf ({ frames := 1, cells := 0, slots := 0, locals := 21 })).room s m ([.int a0] : List Value).toArray below meth c s.heap [] 0 0 (MQ below (QSi r) ([.int a0] : List Value).toArray s 0 0 (fun _ => False)) (F0 m 63 ls []) := by
    intro x7 x8 ls hl hf
    rw [hK6] at hf
    refine lv_sipush (v := 10000) hx hb dX1_dateOf_63 (by decide) ?_
    refine lv_iload_n hx hb dX1_dateOf_66 rfl (lv_at hl 0 rfl) ?_
    refine lv_imul hx hb dX1_dateOf_67 ?_
    refine lv_bipush (v := 100) hx hb dX1_dateOf_68 (by decide) ?_
    refine lv_iload hx hb dX1_dateOf_70 (lv_at hl 2 rfl) ?_
    refine lv_imul hx hb dX1_dateOf_72 ?_
    refine lv_iadd hx hb dX1_dateOf_73 ?_
    refine lv_iload_n hx hb dX1_dateOf_74 rfl (lv_at hl 1 rfl) ?_
    refine lv_iadd hx hb dX1_dateOf_75 ?_
    refine lv_iconst (v := 1) hx hb dX1_dateOf_76 (by decide) ?_
    refine lv_iadd hx hb dX1_dateOf_77 ?_
    exact W.iret hx hb hr (fun t ht _ => ⟨_, rfl, Option.some.inj hf, ht⟩) (fun q hq => absurd hq List.not_mem_nil) dX1_dateOf_78
  have LP31 : ∀ (n9 : Nat) (x4 : Int32) (x5 : Int32) (ls : Array Slot), lv_has ls 5 [(2, .int x2), (3, .int x4), (4, .int x5)] → f_X1_dateOf_L31 x2 K6 n9 x4 x5 = some r → W p l e (headSpec wsX1_dateOf ({ frames := 1, cells := 0, slots := 0, locals := 21 })).room s m ([.int a0] : List Value).toArray below meth c s.heap [] 0 0 (MQ below (QSi r) ([.int a0] : List Value).toArray s 0 0 (fun _ => False)) (F0 m 31 ls []) := by
    intro n9
    induction n9 with
    | zero => intro x4 x5 ls hl hf; exact (no_s hf).elim
    | succ n9 ih9 =>
      intro x4 x5 ls hl hf
      rw [f_X1_dateOf_L31] at hf
      refine lv_iload hx hb dX1_dateOf_31 (lv_at hl 2 rfl) ?_
      refine lv_bipush (v := 12) hx hb dX1_dateOf_33 (by decide) ?_
      refine lv_icmp_ge (tgt := 63) hx hb dX1_dateOf_35 (by decide) (fun c10 => ?_) (fun c10 => ?_)
      · have hf := it hf c10
        exact JK6 x4 x5 ls (lv_sub hl [0, 1, 2] rfl) hf
      · have hf := ie hf c10
        refine lv_iload_n hx hb dX1_dateOf_38 rfl (lv_at hl 1 rfl) ?_
        refine lv_iload_n hx hb dX1_dateOf_39 rfl (lv_at hl 0 rfl) ?_
        refine lv_iload hx hb dX1_dateOf_40 (lv_at hl 2 rfl) ?_
        obtain ⟨v11, hv11, hf⟩ := ob hf
        refine cSi (W.runS (As := [.int x2, .int x5]) (rest := [.int x4]) ⟨hx, hb, hml, hown, hts⟩ (m_X1_monthLength l D cI cJ cO ah x2 x5 v11 hv11) (va_cwS 2 hts gX1_dateOf_X1_monthLength rfl rfl rfl (by decide +kernel) ⟨(Nat.le_of_ble_eq_true rfl), (Nat.le_of_ble_eq_true rfl)⟩) ⟨pw_blind, fun U hU hW => ⟨rfl, pw_at hZ va_S.rf hP hK hU hW (Or.inr rfl) [] rfl⟩⟩ rfl rfl hl.1 rfl (lv_room (Nat.le_of_ble_eq_true rfl)) dX1_dateOf_42 ⟨(Nat.le_of_ble_eq_true rfl), (Nat.le_of_ble_eq_true rfl)⟩) ?_
        refine lv_icmp_lt (tgt := 63) hx hb dX1_dateOf_45 (by decide) (fun c12 => ?_) (fun c12 => ?_)
        · have hf := it hf c12
          exact JK6 x4 x5 ls (lv_sub hl [0, 1, 2] rfl) hf
        · have hf := ie hf c12
          refine lv_iload_n hx hb dX1_dateOf_48 rfl (lv_at hl 1 rfl) ?_
          refine lv_iload_n hx hb dX1_dateOf_49 rfl (lv_at hl 0 rfl) ?_
          refine lv_iload hx hb dX1_dateOf_50 (lv_at hl 2 rfl) ?_
          obtain ⟨v13, hv13, hf⟩ := ob hf
          refine cSi (W.runS (As := [.int x2, .int x5]) (rest := [.int x4]) ⟨hx, hb, hml, hown, hts⟩ (m_X1_monthLength l D cI cJ cO ah x2 x5 v13 hv13) (va_cwS 2 hts gX1_dateOf_X1_monthLength rfl rfl rfl (by decide +kernel) ⟨(Nat.le_of_ble_eq_true rfl), (Nat.le_of_ble_eq_true rfl)⟩) ⟨pw_blind, fun U hU hW => ⟨rfl, pw_at hZ va_S.rf hP hK hU hW (Or.inr rfl) [] rfl⟩⟩ rfl rfl hl.1 rfl (lv_room (Nat.le_of_ble_eq_true rfl)) dX1_dateOf_52 ⟨(Nat.le_of_ble_eq_true rfl), (Nat.le_of_ble_eq_true rfl)⟩) ?_
          refine lv_isub hx hb dX1_dateOf_55 ?_
          refine lv_topi (fun x14 ex14 => ?_)
          have hf := bd_s hf ex14
          refine lv_istore_n (lv' := [(3, .int x14), (2, .int x2), (4, .int x5)]) hx hb dX1_dateOf_56 rfl hl (by decide) rfl (fun ls hl => ?_)
          obtain ⟨x15, ex15⟩ : ∃ y : Int32, y = x5 + 1 := ⟨_, rfl⟩
          have hf := bd_s hf ex15
          refine lv_iinc (v := x15) (lv' := [(4, .int x15), (3, .int x14), (2, .int x2)]) hx hb dX1_dateOf_57 hl (k := 2) rfl (by rw [ex15]; rfl) (by decide) rfl (fun ls hl => ?_)
          refine lv_goto (tgt := 31) hx hb dX1_dateOf_60 (by decide) ?_
          exact ih9 x14 x15 ls (lv_sub hl [2, 1, 0] rfl) hf
  exact LP31 N x3 1 ls (lv_sub hl [2, 1, 0] rfl) hf
set_option maxHeartbeats 4000000 in
set_option maxRecDepth 100000 in
theorem m_X1_dayOfWeek (l : Launch) (D : va_G) (cI cJ cO : ClassId) (ah : Nat) (a0 : Int32) (r : Int32) (hf : f_X1_dayOfWeek a0 = some r) : Met l yX1_dayOfWeek wsX1_dayOfWeek ({ frames := 0, cells := 0, slots := 0, locals := 0 }) (va_Pc [.int a0] (pw D (ty3 cI cJ cO) (some ah) [])) (QSi r) 0 0 (fun _ => False) := by
  refine Met.ofW (cc := cX1_dayOfWeek) (maxL := 1) (ret := (some .int)) (by decide) rfl ?_
  intro p e s m args below meth c s₁ Bd hml hv
  obtain ⟨rfl, hZ, hP, hK⟩ := hv
  have hx := Bd.exec
  have hb := Bd.bytes
  have hr := Bd.returns
  have hts := atoms_spec (ws := wsX1_dayOfWeek) Bd.pre
  have hown : s.vm.findClass RX1 = some m.cls := findClass_of_methodNamed Bd.named
  have hlocks := Bd.notSynchronized
  have hl := lv_entry ([.int a0]) (n := 1) (Nat.le_of_ble_eq_true rfl)
  rw [lg_entry_eq]
  generalize (lg_sl ([.int a0]) ++ List.replicate (1 - (lg_sl ([.int a0])).length) Slot.unset).toArray = ls at hl ⊢
  have hl : lv_has ls 1 [(0, .int a0)] := hl
  unfold f_X1_dayOfWeek at hf
  refine lv_iload_n hx hb dX1_dayOfWeek_0 rfl (lv_at hl 0 rfl) ?_
  refine lv_iconst (v := 4) hx hb dX1_dayOfWeek_1 (by decide) ?_
  refine lv_iadd hx hb dX1_dayOfWeek_2 ?_
  refine lv_bipush (v := 7) hx hb dX1_dayOfWeek_3 (by decide) ?_
  refine lv_irem hx hb dX1_dayOfWeek_5 (by decide) ?_
  exact W.iret hx hb hr (fun t ht _ => ⟨_, rfl, Option.some.inj hf, ht⟩) (fun q hq => absurd hq List.not_mem_nil) dX1_dayOfWeek_6
set_option maxHeartbeats 4000000 in
set_option maxRecDepth 100000 in
theorem m_X1_daysBetween (l : Launch) (D : va_G) (cI cJ cO : ClassId) (ah : Nat) (a0 : Int32) (a1 : Int32) (r : Int32) (hf : f_X1_daysBetween a0 a1 = some r) : Met l yX1_daysBetween wsX1_daysBetween ({ frames := 1, cells := 0, slots := 0, locals := 24 }) (va_Pc [.int a0, .int a1] (pw D (ty3 cI cJ cO) (some ah) [])) (QSi r) 0 0 (fun _ => False) := by
  refine Met.ofW (cc := cX1_daysBetween) (maxL := 2) (ret := (some .int)) (by decide) rfl ?_
  intro p e s m args below meth c s₁ Bd hml hv
  obtain ⟨rfl, hZ, hP, hK⟩ := hv
  have hx := Bd.exec
  have hb := Bd.bytes
  have hr := Bd.returns
  have hts := atoms_spec (ws := wsX1_daysBetween) Bd.pre
  have hown : s.vm.findClass RX1 = some m.cls := findClass_of_methodNamed Bd.named
  have hlocks := Bd.notSynchronized
  have hl := lv_entry ([.int a0, .int a1]) (n := 2) (Nat.le_of_ble_eq_true rfl)
  rw [lg_entry_eq]
  generalize (lg_sl ([.int a0, .int a1]) ++ List.replicate (2 - (lg_sl ([.int a0, .int a1])).length) Slot.unset).toArray = ls at hl ⊢
  have hl : lv_has ls 2 [(0, .int a0), (1, .int a1)] := hl
  unfold f_X1_daysBetween at hf
  refine lv_iload_n hx hb dX1_daysBetween_0 rfl (lv_at hl 1 rfl) ?_
  obtain ⟨v1, hv1, hf⟩ := ob hf
  refine cSi (W.runS (As := [.int a1]) (rest := []) ⟨hx, hb, hml, hown, hts⟩ (m_X1_dayNumber l D cI cJ cO ah a1 v1 hv1) (va_cwS 1 hts gX1_daysBetween_X1_dayNumber rfl rfl rfl (by decide +kernel) ⟨(Nat.le_of_ble_eq_true rfl), (Nat.le_of_ble_eq_true rfl)⟩) ⟨pw_blind, fun U hU hW => ⟨rfl, pw_at hZ va_S.rf hP hK hU hW (Or.inr rfl) [] rfl⟩⟩ rfl rfl hl.1 rfl (lv_room (Nat.le_of_ble_eq_true rfl)) dX1_daysBetween_1 ⟨(Nat.le_of_ble_eq_true rfl), (Nat.le_of_ble_eq_true rfl)⟩) ?_
  refine lv_iload_n hx hb dX1_daysBetween_4 rfl (lv_at hl 0 rfl) ?_
  obtain ⟨v2, hv2, hf⟩ := ob hf
  refine cSi (W.runS (As := [.int a0]) (rest := [.int v1]) ⟨hx, hb, hml, hown, hts⟩ (m_X1_dayNumber l D cI cJ cO ah a0 v2 hv2) (va_cwS 1 hts gX1_daysBetween_X1_dayNumber rfl rfl rfl (by decide +kernel) ⟨(Nat.le_of_ble_eq_true rfl), (Nat.le_of_ble_eq_true rfl)⟩) ⟨pw_blind, fun U hU hW => ⟨rfl, pw_at hZ va_S.rf hP hK hU hW (Or.inr rfl) [] rfl⟩⟩ rfl rfl hl.1 rfl (lv_room (Nat.le_of_ble_eq_true rfl)) dX1_daysBetween_5 ⟨(Nat.le_of_ble_eq_true rfl), (Nat.le_of_ble_eq_true rfl)⟩) ?_
  refine lv_isub hx hb dX1_daysBetween_8 ?_
  exact W.iret hx hb hr (fun t ht _ => ⟨_, rfl, Option.some.inj hf, ht⟩) (fun q hq => absurd hq List.not_mem_nil) dX1_daysBetween_9
set_option maxHeartbeats 4000000 in
set_option maxRecDepth 100000 in
theorem m_X1_daysOf30 (l : Launch) (D : va_G) (cI cJ cO : ClassId) (ah : Nat) (a0 : Int32) (a1 : Int32) (r : Int32) (hf : f_X1_daysOf30 a0 a1 = some r) : Met l yX1_daysOf30 wsX1_daysOf30 ({ frames := 1, cells := 0, slots := 0, locals := 20 }) (va_Pc [.int a0, .int a1] (pw D (ty3 cI cJ cO) (some ah) [])) (QSi r) 0 0 (fun _ => False) := by
  refine Met.ofW (cc := cX1_daysOf30) (maxL := 4) (ret := (some .int)) (by decide) rfl ?_
  intro p e s m args below meth c s₁ Bd hml hv
  obtain ⟨rfl, hZ, hP, hK⟩ := hv
  have hx := Bd.exec
  have hb := Bd.bytes
  have hr := Bd.returns
  have hts := atoms_spec (ws := wsX1_daysOf30) Bd.pre
  have hown : s.vm.findClass RX1 = some m.cls := findClass_of_methodNamed Bd.named
  have hlocks := Bd.notSynchronized
  have hl := lv_entry ([.int a0, .int a1]) (n := 4) (Nat.le_of_ble_eq_true rfl)
  rw [lg_entry_eq]
  generalize (lg_sl ([.int a0, .int a1]) ++ List.replicate (4 - (lg_sl ([.int a0, .int a1])).length) Slot.unset).toArray = ls at hl ⊢
  have hl : lv_has ls 4 [(0, .int a0), (1, .int a1)] := hl
  unfold f_X1_daysOf30 at hf
  refine lv_iload_n hx hb dX1_daysOf30_0 rfl (lv_at hl 0 rfl) ?_
  obtain ⟨v1, hv1, hf⟩ := ob hf
  refine cSi (W.runS (As := [.int a0]) (rest := []) ⟨hx, hb, hml, hown, hts⟩ (m_X1_dayOf l D cI cJ cO ah a0 v1 hv1) (va_cwS 1 hts gX1_daysOf30_X1_dayOf rfl rfl rfl (by decide +kernel) ⟨(Nat.le_of_ble_eq_true rfl), (Nat.le_of_ble_eq_true rfl)⟩) ⟨pw_blind, fun U hU hW => ⟨rfl, pw_at hZ va_S.rf hP hK hU hW (Or.inr rfl) [] rfl⟩⟩ rfl rfl hl.1 rfl (lv_room (Nat.le_of_ble_eq_true rfl)) dX1_daysOf30_1 ⟨(Nat.le_of_ble_eq_true rfl), (Nat.le_of_ble_eq_true rfl)⟩) ?_
  refine lv_bipush (v := 30) hx hb dX1_daysOf30_4 (by decide) ?_
  refine va_mmin hx hb (hml.trans hl.1.symm) hown (hts (.methodLink RX1 34 Lib.Math.min.name) (by decide +kernel)) (hts (.static Lib.Math.min.name) (by decide +kernel)) (hts (.initialized "java/lang/Math") (by decide +kernel)) (hts (.code Lib.Math.min.name Lib.Math.min.code 2 (some .int)) (by decide +kernel)) (Nat.le_of_ble_eq_true rfl) (Nat.le_of_ble_eq_true rfl) (Nat.le_of_ble_eq_true rfl) (Nat.le_of_ble_eq_true rfl) dX1_daysOf30_6 ?_
  refine lv_topi (fun x2 ex2 => ?_)
  have hf := bd_s hf ex2
  refine lv_istore_n (lv' := [(2, .int x2), (0, .int a0), (1, .int a1)]) hx hb dX1_daysOf30_9 rfl hl (by decide) rfl (fun ls hl => ?_)
  refine lv_iload_n hx hb dX1_daysOf30_10 rfl (lv_at hl 0 rfl) ?_
  refine lv_bipush (v := 30) hx hb dX1_daysOf30_11 (by decide) ?_
  obtain ⟨K3, hK3, hf⟩ := jn_s hf
  have JK3 : ∀ (x4 : Int32) (ls : Array Slot), lv_has ls 4 [(0, .int a0), (1, .int a1), (2, .int x2)] → K3 x4 = some r → W p l e (headSpec wsX1_daysOf30 ({ frames := 1, cells := 0, slots := 0, locals := 20 })).room s m ([.int a0, .int a1] : List Value).toArray below meth c s.heap [] 0 0 (MQ below (QSi r) ([.int a0, .int a1] : List Value).toArray s 0 0 (fun _ => False)) (F0 m 32 ls [.int x4]) := by
    intro x4 ls hl hf
    rw [hK3] at hf
    refine lv_istore_n (lv' := [(3, .int x4), (0, .int a0), (1, .int a1), (2, .int x2)]) hx hb dX1_daysOf30_32 rfl hl (by decide) rfl (fun ls hl => ?_)
    refine lv_sipush (v := 360) hx hb dX1_daysOf30_33 (by decide) ?_
    refine lv_iload_n hx hb dX1_daysOf30_36 rfl (lv_at hl 2 rfl) ?_
    obtain ⟨v5, hv5, hf⟩ := ob hf
    refine cSi (W.runS (As := [.int a1]) (rest := [.int 360]) ⟨hx, hb, hml, hown, hts⟩ (m_X1_yearOf l D cI cJ cO ah a1 v5 hv5) (va_cwS 1 hts gX1_daysOf30_X1_yearOf rfl rfl rfl (by decide +kernel) ⟨(Nat.le_of_ble_eq_true rfl), (Nat.le_of_ble_eq_true rfl)⟩) ⟨pw_blind, fun U hU hW => ⟨rfl, pw_at hZ va_S.rf hP hK hU hW (Or.inr rfl) [] rfl⟩⟩ rfl rfl hl.1 rfl (lv_room (Nat.le_of_ble_eq_true rfl)) dX1_daysOf30_37 ⟨(Nat.le_of_ble_eq_true rfl), (Nat.le_of_ble_eq_true rfl)⟩) ?_
    refine lv_iload_n hx hb dX1_daysOf30_40 rfl (lv_at hl 1 rfl) ?_
    obtain ⟨v6, hv6, hf⟩ := ob hf
    refine cSi (W.runS (As := [.int a0]) (rest := [.int v5, .int 360]) ⟨hx, hb, hml, hown, hts⟩ (m_X1_yearOf l D cI cJ cO ah a0 v6 hv6) (va_cwS 1 hts gX1_daysOf30_X1_yearOf rfl rfl rfl (by decide +kernel) ⟨(Nat.le_of_ble_eq_true rfl), (Nat.le_of_ble_eq_true rfl)⟩) ⟨pw_blind, fun U hU hW => ⟨rfl, pw_at hZ va_S.rf hP hK hU hW (Or.inr rfl) [] rfl⟩⟩ rfl rfl hl.1 rfl (lv_room (Nat.le_of_ble_eq_true rfl)) dX1_daysOf30_41 ⟨(Nat.le_of_ble_eq_true rfl), (Nat.le_of_ble_eq_true rfl)⟩) ?_
    refine lv_isub hx hb dX1_daysOf30_44 ?_
    refine lv_imul hx hb dX1_daysOf30_45 ?_
    refine lv_bipush (v := 30) hx hb dX1_daysOf30_46 (by decide) ?_
    refine lv_iload_n hx hb dX1_daysOf30_48 rfl (lv_at hl 2 rfl) ?_
    obtain ⟨v7, hv7, hf⟩ := ob hf
    refine cSi (W.runS (As := [.int a1]) (rest := [.int 30, .int (360 * (v5 - v6))]) ⟨hx, hb, hml, hown, hts⟩ (m_X1_monthOf l D cI cJ cO ah a1 v7 hv7) (va_cwS 1 hts gX1_daysOf30_X1_monthOf rfl rfl rfl (by decide +kernel) ⟨(Nat.le_of_ble_eq_true rfl), (Nat.le_of_ble_eq_true rfl)⟩) ⟨pw_blind, fun U hU hW => ⟨rfl, pw_at hZ va_S.rf hP hK hU hW (Or.inr rfl) [] rfl⟩⟩ rfl rfl hl.1 rfl (lv_room (Nat.le_of_ble_eq_true rfl)) dX1_daysOf30_49 ⟨(Nat.le_of_ble_eq_true rfl), (Nat.le_of_ble_eq_true rfl)⟩) ?_
    refine lv_iload_n hx hb dX1_daysOf30_52 rfl (lv_at hl 1 rfl) ?_
    obtain ⟨v8, hv8, hf⟩ := ob hf
    refine cSi (W.runS (As := [.int a0]) (rest := [.int v7, .int 30, .int (360 * (v5 - v6))]) ⟨hx, hb, hml, hown, hts⟩ (m_X1_monthOf l D cI cJ cO ah a0 v8 hv8) (va_cwS 1 hts gX1_daysOf30_X1_monthOf rfl rfl rfl (by decide +kernel) ⟨(Nat.le_of_ble_eq_true rfl), (Nat.le_of_ble_eq_true rfl)⟩) ⟨pw_blind, fun U hU hW => ⟨rfl, pw_at hZ va_S.rf hP hK hU hW (Or.inr rfl) [] rfl⟩⟩ rfl rfl hl.1 rfl (lv_room (Nat.le_of_ble_eq_true rfl)) dX1_daysOf30_53 ⟨(Nat.le_of_ble_eq_true rfl), (Nat.le_of_ble_eq_true rfl)⟩) ?_
    refine lv_isub hx hb dX1_daysOf30_56 ?_
    refine lv_imul hx hb dX1_daysOf30_57 ?_
    refine lv_iadd hx hb dX1_daysOf30_58 ?_
    refine lv_iload_n hx hb dX1_daysOf30_59 rfl (lv_at hl 0 rfl) ?_
    refine lv_iadd hx hb dX1_daysOf30_60 ?_
    refine lv_iload_n hx hb dX1_daysOf30_61 rfl (lv_at hl 3 rfl) ?_
    refine lv_isub hx hb dX1_daysOf30_62 ?_
    exact W.iret hx hb hr (fun t ht _ => ⟨_, rfl, Option.some.inj hf, ht⟩) (fun q hq => absurd hq List.not_mem_nil) dX1_daysOf30_63
  refine lv_icmp_ne (tgt := 28) hx hb dX1_daysOf30_13 (by decide) (fun c9 => ?_) (fun c9 => ?_)
  · have hf := ie hf c9
    refine lv_iload_n hx hb dX1_daysOf30_28 rfl (lv_at hl 2 rfl) ?_
    obtain ⟨v10, hv10, hf⟩ := ob hf
    refine cSi (W.runS (As := [.int a1]) (rest := []) ⟨hx, hb, hml, hown, hts⟩ (m_X1_dayOf l D cI cJ cO ah a1 v10 hv10) (va_cwS 1 hts gX1_daysOf30_X1_dayOf rfl rfl rfl (by decide +kernel) ⟨(Nat.le_of_ble_eq_true rfl), (Nat.le_of_ble_eq_true rfl)⟩) ⟨pw_blind, fun U hU hW => ⟨rfl, pw_at hZ va_S.rf hP hK hU hW (Or.inr rfl) [] rfl⟩⟩ rfl rfl hl.1 rfl (lv_room (Nat.le_of_ble_eq_true rfl)) dX1_daysOf30_29 ⟨(Nat.le_of_ble_eq_true rfl), (Nat.le_of_ble_eq_true rfl)⟩) ?_
    exact JK3 v10 ls (lv_sub hl [1, 2, 0] rfl) hf
  · have hf := it hf c9
    refine lv_iload_n hx hb dX1_daysOf30_16 rfl (lv_at hl 2 rfl) ?_
    obtain ⟨v11, hv11, hf⟩ := ob hf
    refine cSi (W.runS (As := [.int a1]) (rest := []) ⟨hx, hb, hml, hown, hts⟩ (m_X1_dayOf l D cI cJ cO ah a1 v11 hv11) (va_cwS 1 hts gX1_daysOf30_X1_dayOf rfl rfl rfl (by decide +kernel) ⟨(Nat.le_of_ble_eq_true rfl), (Nat.le_of_ble_eq_true rfl)⟩) ⟨pw_blind, fun U hU hW => ⟨rfl, pw_at hZ va_S.rf hP hK hU hW (Or.inr rfl) [] rfl⟩⟩ rfl rfl hl.1 rfl (lv_room (Nat.le_of_ble_eq_true rfl)) dX1_daysOf30_17 ⟨(Nat.le_of_ble_eq_true rfl), (Nat.le_of_ble_eq_true rfl)⟩) ?_
    refine lv_bipush (v := 30) hx hb dX1_daysOf30_20 (by decide) ?_
    refine va_mmin hx hb (hml.trans hl.1.symm) hown (hts (.methodLink RX1 34 Lib.Math.min.name) (by decide +kernel)) (hts (.static Lib.Math.min.name) (by decide +kernel)) (hts (.initialized "java/lang/Math") (by decide +kernel)) (hts (.code Lib.Math.min.name Lib.Math.min.code 2 (some .int)) (by decide +kernel)) (Nat.le_of_ble_eq_true rfl) (Nat.le_of_ble_eq_true rfl) (Nat.le_of_ble_eq_true rfl) (Nat.le_of_ble_eq_true rfl) dX1_daysOf30_22 ?_
    refine lv_topi (fun x12 ex12 => ?_)
    have hf := bd_s hf ex12
    refine lv_goto (tgt := 32) hx hb dX1_daysOf30_25 (by decide) ?_
    exact JK3 x12 ls (lv_sub hl [1, 2, 0] rfl) hf
set_option maxHeartbeats 4000000 in
set_option maxRecDepth 100000 in
theorem m_X1_monthsBack (l : Launch) (D : va_G) (cI cJ cO : ClassId) (ah : Nat) (a0 : Int32) (a1 : Int32) (r : Int32) (hf : f_X1_monthsBack a0 a1 = some r) : Met l yX1_monthsBack wsX1_monthsBack ({ frames := 1, cells := 0, slots := 0, locals := 21 }) (va_Pc [.int a0, .int a1] (pw D (ty3 cI cJ cO) (some ah) [])) (QSi r) 0 0 (fun _ => False) := by
  refine Met.ofW (cc := cX1_monthsBack) (maxL := 8) (ret := (some .int)) (by decide) rfl ?_
  intro p e s m args below meth c s₁ Bd hml hv
  obtain ⟨rfl, hZ, hP, hK⟩ := hv
  have hx := Bd.exec
  have hb := Bd.bytes
  have hr := Bd.returns
  have hts := atoms_spec (ws := wsX1_monthsBack) Bd.pre
  have hown : s.vm.findClass RX1 = some m.cls := findClass_of_methodNamed Bd.named
  have hlocks := Bd.notSynchronized
  have hl := lv_entry ([.int a0, .int a1]) (n := 8) (Nat.le_of_ble_eq_true rfl)
  rw [lg_entry_eq]
  generalize (lg_sl ([.int a0, .int a1]) ++ List.replicate (8 - (lg_sl ([.int a0, .int a1])).length) Slot.unset).toArray = ls at hl ⊢
  have hl : lv_has ls 8 [(0, .int a0), (1, .int a1)] := hl
  unfold f_X1_monthsBack at hf
  refine lv_bipush (v := 12) hx hb dX1_monthsBack_0 (by decide) ?_
  refine lv_iload_n hx hb dX1_monthsBack_2 rfl (lv_at hl 0 rfl) ?_
  obtain ⟨v1, hv1, hf⟩ := ob hf
  refine cSi (W.runS (As := [.int a0]) (rest := [.int 12]) ⟨hx, hb, hml, hown, hts⟩ (m_X1_yearOf l D cI cJ cO ah a0 v1 hv1) (va_cwS 1 hts gX1_monthsBack_X1_yearOf rfl rfl rfl (by decide +kernel) ⟨(Nat.le_of_ble_eq_true rfl), (Nat.le_of_ble_eq_true rfl)⟩) ⟨pw_blind, fun U hU hW => ⟨rfl, pw_at hZ va_S.rf hP hK hU hW (Or.inr rfl) [] rfl⟩⟩ rfl rfl hl.1 rfl (lv_room (Nat.le_of_ble_eq_true rfl)) dX1_monthsBack_3 ⟨(Nat.le_of_ble_eq_true rfl), (Nat.le_of_ble_eq_true rfl)⟩) ?_
  refine lv_imul hx hb dX1_monthsBack_6 ?_
  refine lv_iload_n hx hb dX1_monthsBack_7 rfl (lv_at hl 0 rfl) ?_
  obtain ⟨v2, hv2, hf⟩ := ob hf
  refine cSi (W.runS (As := [.int a0]) (rest := [.int (12 * v1)]) ⟨hx, hb, hml, hown, hts⟩ (m_X1_monthOf l D cI cJ cO ah a0 v2 hv2) (va_cwS 1 hts gX1_monthsBack_X1_monthOf rfl rfl rfl (by decide +kernel) ⟨(Nat.le_of_ble_eq_true rfl), (Nat.le_of_ble_eq_true rfl)⟩) ⟨pw_blind, fun U hU hW => ⟨rfl, pw_at hZ va_S.rf hP hK hU hW (Or.inr rfl) [] rfl⟩⟩ rfl rfl hl.1 rfl (lv_room (Nat.le_of_ble_eq_true rfl)) dX1_monthsBack_8 ⟨(Nat.le_of_ble_eq_true rfl), (Nat.le_of_ble_eq_true rfl)⟩) ?_
  refine lv_iadd hx hb dX1_monthsBack_11 ?_
  refine lv_iconst (v := 1) hx hb dX1_monthsBack_12 (by decide) ?_
  refine lv_isub hx hb dX1_monthsBack_13 ?_
  refine lv_iload_n hx hb dX1_monthsBack_14 rfl (lv_at hl 1 rfl) ?_
  refine lv_isub hx hb dX1_monthsBack_15 ?_
  refine lv_topi (fun x3 ex3 => ?_)
  have hf := bd_s hf ex3
  refine lv_istore_n (lv' := [(2, .int x3), (0, .int a0), (1, .int a1)]) hx hb dX1_monthsBack_16 rfl hl (by decide) rfl (fun ls hl => ?_)
  refine lv_iload_n hx hb dX1_monthsBack_17 rfl (lv_at hl 0 rfl) ?_
  refine lv_bipush (v := 12) hx hb dX1_monthsBack_18 (by decide) ?_
  refine lv_idiv hx hb dX1_monthsBack_20 (by decide) ?_
  refine lv_topi (fun x4 ex4 => ?_)
  have hf := bd_s hf ex4
  refine lv_istore_n (lv' := [(3, .int x4), (2, .int x3), (0, .int a0), (1, .int a1)]) hx hb dX1_monthsBack_21 rfl hl (by decide) rfl (fun ls hl => ?_)
  refine lv_iload_n hx hb dX1_monthsBack_22 rfl (lv_at hl 1 rfl) ?_
  refine lv_bipush (v := 12) hx hb dX1_monthsBack_23 (by decide) ?_
  refine lv_irem hx hb dX1_monthsBack_25 (by decide) ?_
  refine lv_iconst (v := 1) hx hb dX1_monthsBack_26 (by decide) ?_
  refine lv_iadd hx hb dX1_monthsBack_27 ?_
  refine lv_topi (fun x5 ex5 => ?_)
  have hf := bd_s hf ex5
  refine lv_istore (lv' := [(4, .int x5), (3, .int x4), (2, .int x3), (0, .int a0), (1, .int a1)]) hx hb dX1_monthsBack_28 hl (by decide) rfl (fun ls hl => ?_)
  refine lv_iload_n hx hb dX1_monthsBack_30 rfl (lv_at hl 1 rfl) ?_
  refine lv_iload hx hb dX1_monthsBack_31 (lv_at hl 0 rfl) ?_
  obtain ⟨v6, hv6, hf⟩ := ob hf
  refine cSi (W.runS (As := [.int x4, .int x5]) (rest := []) ⟨hx, hb, hml, hown, hts⟩ (m_X1_monthLength l D cI cJ cO ah x4 x5 v6 hv6) (va_cwS 2 hts gX1_monthsBack_X1_monthLength rfl rfl rfl (by decide +kernel) ⟨(Nat.le_of_ble_eq_true rfl), (Nat.le_of_ble_eq_true rfl)⟩) ⟨pw_blind, fun U hU hW => ⟨rfl, pw_at hZ va_S.rf hP hK hU hW (Or.inr rfl) [] rfl⟩⟩ rfl rfl hl.1 rfl (lv_room (Nat.le_of_ble_eq_true rfl)) dX1_monthsBack_33 ⟨(Nat.le_of_ble_eq_true rfl), (Nat.le_of_ble_eq_true rfl)⟩) ?_
  refine lv_istore (lv' := [(5, .int v6), (4, .int x5), (3, .int x4), (2, .int x3), (0, .int a0), (1, .int a1)]) hx hb dX1_monthsBack_36 hl (by decide) rfl (fun ls hl => ?_)
  refine lv_iload_n hx hb dX1_monthsBack_38 rfl (lv_at hl 4 rfl) ?_
  obtain ⟨v7, hv7, hf⟩ := ob hf
  refine cSi (W.runS (As := [.int a0]) (rest := []) ⟨hx, hb, hml, hown, hts⟩ (m_X1_dayOf l D cI cJ cO ah a0 v7 hv7) (va_cwS 1 hts gX1_monthsBack_X1_dayOf rfl rfl rfl (by decide +kernel) ⟨(Nat.le_of_ble_eq_true rfl), (Nat.le_of_ble_eq_true rfl)⟩) ⟨pw_blind, fun U hU hW => ⟨rfl, pw_at hZ va_S.rf hP hK hU hW (Or.inr rfl) [] rfl⟩⟩ rfl rfl hl.1 rfl (lv_room (Nat.le_of_ble_eq_true rfl)) dX1_monthsBack_39 ⟨(Nat.le_of_ble_eq_true rfl), (Nat.le_of_ble_eq_true rfl)⟩) ?_
  refine lv_iload_n hx hb dX1_monthsBack_42 rfl (lv_at hl 4 rfl) ?_
  obtain ⟨v8, hv8, hf⟩ := ob hf
  refine cSi (W.runS (As := [.int a0]) (rest := [.int v7]) ⟨hx, hb, hml, hown, hts⟩ (m_X1_yearOf l D cI cJ cO ah a0 v8 hv8) (va_cwS 1 hts gX1_monthsBack_X1_yearOf rfl rfl rfl (by decide +kernel) ⟨(Nat.le_of_ble_eq_true rfl), (Nat.le_of_ble_eq_true rfl)⟩) ⟨pw_blind, fun U hU hW => ⟨rfl, pw_at hZ va_S.rf hP hK hU hW (Or.inr rfl) [] rfl⟩⟩ rfl rfl hl.1 rfl (lv_room (Nat.le_of_ble_eq_true rfl)) dX1_monthsBack_43 ⟨(Nat.le_of_ble_eq_true rfl), (Nat.le_of_ble_eq_true rfl)⟩) ?_
  refine lv_iload_n hx hb dX1_monthsBack_46 rfl (lv_at hl 4 rfl) ?_
  obtain ⟨v9, hv9, hf⟩ := ob hf
  refine cSi (W.runS (As := [.int a0]) (rest := [.int v8, .int v7]) ⟨hx, hb, hml, hown, hts⟩ (m_X1_monthOf l D cI cJ cO ah a0 v9 hv9) (va_cwS 1 hts gX1_monthsBack_X1_monthOf rfl rfl rfl (by decide +kernel) ⟨(Nat.le_of_ble_eq_true rfl), (Nat.le_of_ble_eq_true rfl)⟩) ⟨pw_blind, fun U hU hW => ⟨rfl, pw_at hZ va_S.rf hP hK hU hW (Or.inr rfl) [] rfl⟩⟩ rfl rfl hl.1 rfl (lv_room (Nat.le_of_ble_eq_true rfl)) dX1_monthsBack_47 ⟨(Nat.le_of_ble_eq_true rfl), (Nat.le_of_ble_eq_true rfl)⟩) ?_
  obtain ⟨v10, hv10, hf⟩ := ob hf
  refine cSi (W.runS (As := [.int v8, .int v9]) (rest := [.int v7]) ⟨hx, hb, hml, hown, hts⟩ (m_X1_monthLength l D cI cJ cO ah v8 v9 v10 hv10) (va_cwS 2 hts gX1_monthsBack_X1_monthLength rfl rfl rfl (by decide +kernel) ⟨(Nat.le_of_ble_eq_true rfl), (Nat.le_of_ble_eq_true rfl)⟩) ⟨pw_blind, fun U hU hW => ⟨rfl, pw_at hZ va_S.rf hP hK hU hW (Or.inr rfl) [] rfl⟩⟩ rfl rfl hl.1 rfl (lv_room (Nat.le_of_ble_eq_true rfl)) dX1_monthsBack_50 ⟨(Nat.le_of_ble_eq_true rfl), (Nat.le_of_ble_eq_true rfl)⟩) ?_
  obtain ⟨K11, hK11, hf⟩ := jn_s hf
  have JK11 : ∀ (x12 : Int32) (ls : Array Slot), lv_has ls 8 [(0, .int a0), (3, .int x4), (4, .int x5), (5, .int v6)] → K11 x12 = some r → W p l e (headSpec wsX1_monthsBack ({ frames := 1, cells := 0, slots := 0, locals := 21 })).room s m ([.int a0, .int a1] : List Value).toArray below meth c s.heap [] 0 0 (MQ below (QSi r) ([.int a0, .int a1] : List Value).toArray s 0 0 (fun _ => False)) (F0 m 61 ls [.int x12]) := by
    intro x12 ls hl hf
    rw [hK11] at hf
    refine lv_istore (lv' := [(6, .int x12), (0, .int a0), (3, .int x4), (4, .int x5), (5, .int v6)]) hx hb dX1_monthsBack_61 hl (by decide) rfl (fun ls hl => ?_)
    refine lv_iload hx hb dX1_monthsBack_63 (lv_at hl 0 rfl) ?_
    obtain ⟨K13, hK13, hf⟩ := jn_s hf
    have JK13 : ∀ (x14 : Int32) (ls : Array Slot), lv_has ls 8 [(3, .int x4), (4, .int x5)] → K13 x14 = some r → W p l e (headSpec wsX1_monthsBack ({ frames := 1, cells := 0, slots := 0, locals := 21 })).room s m ([.int a0, .int a1] : List Value).toArray below meth c s.heap [] 0 0 (MQ below (QSi r) ([.int a0, .int a1] : List Value).toArray s 0 0 (fun _ => False)) (F0 m 82 ls [.int x14]) := by
      intro x14 ls hl hf
      rw [hK13] at hf
      refine lv_istore (lv' := [(7, .int x14), (3, .int x4), (4, .int x5)]) hx hb dX1_monthsBack_82 hl (by decide) rfl (fun ls hl => ?_)
      refine lv_sipush (v := 10000) hx hb dX1_monthsBack_84 (by decide) ?_
      refine lv_iload_n hx hb dX1_monthsBack_87 rfl (lv_at hl 1 rfl) ?_
      refine lv_imul hx hb dX1_monthsBack_88 ?_
      refine lv_bipush (v := 100) hx hb dX1_monthsBack_89 (by decide) ?_
      refine lv_iload hx hb dX1_monthsBack_91 (lv_at hl 2 rfl) ?_
      refine lv_imul hx hb dX1_monthsBack_93 ?_
      refine lv_iadd hx hb dX1_monthsBack_94 ?_
      refine lv_iload hx hb dX1_monthsBack_95 (lv_at hl 0 rfl) ?_
      refine lv_iadd hx hb dX1_monthsBack_97 ?_
      exact W.iret hx hb hr (fun t ht _ => ⟨_, rfl, Option.some.inj hf, ht⟩) (fun q hq => absurd hq List.not_mem_nil) dX1_monthsBack_98
    refine lv_if_eq (tgt := 73) hx hb dX1_monthsBack_65 (by decide) (fun c15 => ?_) (fun c15 => ?_)
    · have hf := it hf c15
      refine lv_iload_n hx hb dX1_monthsBack_73 rfl (lv_at hl 1 rfl) ?_
      obtain ⟨v16, hv16, hf⟩ := ob hf
      refine cSi (W.runS (As := [.int a0]) (rest := []) ⟨hx, hb, hml, hown, hts⟩ (m_X1_dayOf l D cI cJ cO ah a0 v16 hv16) (va_cwS 1 hts gX1_monthsBack_X1_dayOf rfl rfl rfl (by decide +kernel) ⟨(Nat.le_of_ble_eq_true rfl), (Nat.le_of_ble_eq_true rfl)⟩) ⟨pw_blind, fun U hU hW => ⟨rfl, pw_at hZ va_S.rf hP hK hU hW (Or.inr rfl) [] rfl⟩⟩ rfl rfl hl.1 rfl (lv_room (Nat.le_of_ble_eq_true rfl)) dX1_monthsBack_74 ⟨(Nat.le_of_ble_eq_true rfl), (Nat.le_of_ble_eq_true rfl)⟩) ?_
      refine lv_iload hx hb dX1_monthsBack_77 (lv_at hl 4 rfl) ?_
      refine va_mmin hx hb (hml.trans hl.1.symm) hown (hts (.methodLink RX1 34 Lib.Math.min.name) (by decide +kernel)) (hts (.static Lib.Math.min.name) (by decide +kernel)) (hts (.initialized "java/lang/Math") (by decide +kernel)) (hts (.code Lib.Math.min.name Lib.Math.min.code 2 (some .int)) (by decide +kernel)) (Nat.le_of_ble_eq_true rfl) (Nat.le_of_ble_eq_true rfl) (Nat.le_of_ble_eq_true rfl) (Nat.le_of_ble_eq_true rfl) dX1_monthsBack_79 ?_
      refine lv_topi (fun x17 ex17 => ?_)
      have hf := bd_s hf ex17
      exact JK13 x17 ls (lv_sub hl [2, 3] rfl) hf
    · have hf := ie hf c15
      refine lv_iload hx hb dX1_monthsBack_68 (lv_at hl 4 rfl) ?_
      refine lv_goto (tgt := 82) hx hb dX1_monthsBack_70 (by decide) ?_
      exact JK13 v6 ls (lv_sub hl [2, 3] rfl) hf
  refine lv_icmp_ne (tgt := 60) hx hb dX1_monthsBack_53 (by decide) (fun c18 => ?_) (fun c18 => ?_)
  · have hf := ie hf c18
    refine lv_iconst (v := 0) hx hb dX1_monthsBack_60 (by decide) ?_
    exact JK11 0 ls (lv_sub hl [4, 2, 1, 0] rfl) hf
  · have hf := it hf c18
    refine lv_iconst (v := 1) hx hb dX1_monthsBack_56 (by decide) ?_
    refine lv_goto (tgt := 61) hx hb dX1_monthsBack_57 (by decide) ?_
    exact JK11 1 ls (lv_sub hl [4, 2, 1, 0] rfl) hf
set_option maxHeartbeats 4000000 in
set_option maxRecDepth 100000 in
theorem m_X3_dateBack (l : Launch) (D : va_G) (cI cJ cO : ClassId) (ah : Nat) (a0 : Int32) (a1 : Int32) (a2 : Int32) (r : Int32) (hf : f_X3_dateBack a0 a1 a2 = some r) : Met l yX3_dateBack wsX3_dateBack ({ frames := 2, cells := 0, slots := 0, locals := 48 }) (va_Pc [.int a0, .int a1, .int a2] (pw D (ty3 cI cJ cO) (some ah) [])) (QSi r) 0 0 (fun _ => False) := by
  refine Met.ofW (cc := cX3_dateBack) (maxL := 3) (ret := (some .int)) (by decide) rfl ?_
  intro p e s m args below meth c s₁ Bd hml hv
  obtain ⟨rfl, hZ, hP, hK⟩ := hv
  have hx := Bd.exec
  have hb := Bd.bytes
  have hr := Bd.returns
  have hts := atoms_spec (ws := wsX3_dateBack) Bd.pre
  have hown : s.vm.findClass RX3 = some m.cls := findClass_of_methodNamed Bd.named
  have hlocks := Bd.notSynchronized
  have hl := lv_entry ([.int a0, .int a1, .int a2]) (n := 3) (Nat.le_of_ble_eq_true rfl)
  rw [lg_entry_eq]
  generalize (lg_sl ([.int a0, .int a1, .int a2]) ++ List.replicate (3 - (lg_sl ([.int a0, .int a1, .int a2])).length) Slot.unset).toArray = ls at hl ⊢
  have hl : lv_has ls 3 [(0, .int a0), (1, .int a1), (2, .int a2)] := hl
  unfold f_X3_dateBack at hf
  refine lv_iload_n hx hb dX3_dateBack_0 rfl (lv_at hl 2 rfl) ?_
  refine lv_if_gt (tgt := 8) hx hb dX3_dateBack_1 (by decide) (fun c1 => ?_) (fun c1 => ?_)
  · have hf := it hf c1
    refine lv_iload_n hx hb dX3_dateBack_8 rfl (lv_at hl 0 rfl) ?_
    refine lv_iload_n hx hb dX3_dateBack_9 rfl (lv_at hl 1 rfl) ?_
    refine lv_bipush (v := 12) hx hb dX3_dateBack_10 (by decide) ?_
    refine lv_iload_n hx hb dX3_dateBack_12 rfl (lv_at hl 2 rfl) ?_
    obtain ⟨c2, hf⟩ := gd_s hf
    refine lv_idiv hx hb dX3_dateBack_13 c2 ?_
    refine lv_imul hx hb dX3_dateBack_14 ?_
    obtain ⟨v3, hv3, hf⟩ := ob hf
    refine cSi (W.runS (As := [.int a0, .int (a1 * (12 / a2))]) (rest := []) ⟨hx, hb, hml, hown, hts⟩ (m_X1_monthsBack l D cI cJ cO ah a0 (a1 * (12 / a2)) v3 hv3) (va_cwS 2 hts gX3_dateBack_X1_monthsBack rfl rfl rfl (by decide +kernel) ⟨(Nat.le_of_ble_eq_true rfl), (Nat.le_of_ble_eq_true rfl)⟩) ⟨pw_blind, fun U hU hW => ⟨rfl, pw_at hZ va_S.rf hP hK hU hW (Or.inr rfl) [] rfl⟩⟩ rfl rfl hl.1 rfl (lv_room (Nat.le_of_ble_eq_true rfl)) dX3_dateBack_15 ⟨(Nat.le_of_ble_eq_true rfl), (Nat.le_of_ble_eq_true rfl)⟩) ?_
    exact W.iret hx hb hr (fun t ht _ => ⟨_, rfl, Option.some.inj hf, ht⟩) (fun q hq => absurd hq List.not_mem_nil) dX3_dateBack_18
  · have hf := ie hf c1
    refine lv_iload_n hx hb dX3_dateBack_4 rfl (lv_at hl 0 rfl) ?_
    refine lv_goto (tgt := 18) hx hb dX3_dateBack_5 (by decide) ?_
    exact W.iret hx hb hr (fun t ht _ => ⟨_, rfl, Option.some.inj hf, ht⟩) (fun q hq => absurd hq List.not_mem_nil) dX3_dateBack_18
set_option maxHeartbeats 4000000 in
set_option maxRecDepth 100000 in
theorem m_X3_countCoupons (l : Launch) (D : va_G) (cI cJ cO : ClassId) (ah : Nat) (a0 : Int32) (a1 : Int32) (a2 : Int32) (N : Nat) (r : Int32) (hf : f_X3_countCoupons N a0 a1 a2 = some r) : Met l yX3_countCoupons wsX3_countCoupons ({ frames := 3, cells := 0, slots := 0, locals := 70 }) (va_Pc [.int a0, .int a1, .int a2] (pw D (ty3 cI cJ cO) (some ah) [])) (QSi r) 0 0 (fun _ => False) := by
  refine Met.ofW (cc := cX3_countCoupons) (maxL := 4) (ret := (some .int)) (by decide) rfl ?_
  intro p e s m args below meth c s₁ Bd hml hv
  obtain ⟨rfl, hZ, hP, hK⟩ := hv
  have hx := Bd.exec
  have hb := Bd.bytes
  have hr := Bd.returns
  have hts := atoms_spec (ws := wsX3_countCoupons) Bd.pre
  have hown : s.vm.findClass RX3 = some m.cls := findClass_of_methodNamed Bd.named
  have hlocks := Bd.notSynchronized
  have hl := lv_entry ([.int a0, .int a1, .int a2]) (n := 4) (Nat.le_of_ble_eq_true rfl)
  rw [lg_entry_eq]
  generalize (lg_sl ([.int a0, .int a1, .int a2]) ++ List.replicate (4 - (lg_sl ([.int a0, .int a1, .int a2])).length) Slot.unset).toArray = ls at hl ⊢
  have hl : lv_has ls 4 [(0, .int a0), (1, .int a1), (2, .int a2)] := hl
  unfold f_X3_countCoupons at hf
  refine lv_iconst (v := 0) hx hb dX3_countCoupons_0 (by decide) ?_
  refine lv_istore_n (lv' := [(3, .int 0), (0, .int a0), (1, .int a1), (2, .int a2)]) hx hb dX3_countCoupons_1 rfl hl (by decide) rfl (fun ls hl => ?_)
  have LP2 : ∀ (n2 : Nat) (x1 : Int32) (ls : Array Slot), lv_has ls 4 [(0, .int a0), (1, .int a1), (2, .int a2), (3, .int x1)] → f_X3_countCoupons_L2 a1 a2 a0 n2 x1 = some r → W p l e (headSpec wsX3_countCoupons ({ frames := 3, cells := 0, slots := 0, locals := 70 })).room s m ([.int a0, .int a1, .int a2] : List Value).toArray below meth c s.heap [] 0 0 (MQ below (QSi r) ([.int a0, .int a1, .int a2] : List Value).toArray s 0 0 (fun _ => False)) (F0 m 2 ls []) := by
    intro n2
    induction n2 with
    | zero => intro x1 ls hl hf; exact (no_s hf).elim
    | succ n2 ih2 =>
      intro x1 ls hl hf
      rw [f_X3_countCoupons_L2] at hf
      refine lv_iload_n hx hb dX3_countCoupons_2 rfl (lv_at hl 3 rfl) ?_
      refine lv_bipush (v := 120) hx hb dX3_countCoupons_3 (by decide) ?_
      refine lv_icmp_gt (tgt := 24) hx hb dX3_countCoupons_5 (by decide) (fun c3 => ?_) (fun c3 => ?_)
      · have hf := it hf c3
        refine lv_iload_n hx hb dX3_countCoupons_24 rfl (lv_at hl 3 rfl) ?_
        exact W.iret hx hb hr (fun t ht _ => ⟨_, rfl, Option.some.inj hf, ht⟩) (fun q hq => absurd hq List.not_mem_nil) dX3_countCoupons_25
      · have hf := ie hf c3
        refine lv_iload_n hx hb dX3_countCoupons_8 rfl (lv_at hl 1 rfl) ?_
        refine lv_iload_n hx hb dX3_countCoupons_9 rfl (lv_at hl 3 rfl) ?_
        refine lv_iload_n hx hb dX3_countCoupons_10 rfl (lv_at hl 2 rfl) ?_
        obtain ⟨v4, hv4, hf⟩ := ob hf
        refine cSi (W.runS (As := [.int a1, .int x1, .int a2]) (rest := []) ⟨hx, hb, hml, hown, hts⟩ (m_X3_dateBack l D cI cJ cO ah a1 x1 a2 v4 hv4) (va_cwS 3 hts gX3_countCoupons_X3_dateBack rfl rfl rfl (by decide +kernel) ⟨(Nat.le_of_ble_eq_true rfl), (Nat.le_of_ble_eq_true rfl)⟩) ⟨pw_blind, fun U hU hW => ⟨rfl, pw_at hZ va_S.rf hP hK hU hW (Or.inr rfl) [] rfl⟩⟩ rfl rfl hl.1 rfl (lv_room (Nat.le_of_ble_eq_true rfl)) dX3_countCoupons_11 ⟨(Nat.le_of_ble_eq_true rfl), (Nat.le_of_ble_eq_true rfl)⟩) ?_
        refine lv_iload_n hx hb dX3_countCoupons_14 rfl (lv_at hl 0 rfl) ?_
        refine lv_icmp_le (tgt := 24) hx hb dX3_countCoupons_15 (by decide) (fun c5 => ?_) (fun c5 => ?_)
        · have hf := it hf c5
          refine lv_iload_n hx hb dX3_countCoupons_24 rfl (lv_at hl 3 rfl) ?_
          exact W.iret hx hb hr (fun t ht _ => ⟨_, rfl, Option.some.inj hf, ht⟩) (fun q hq => absurd hq List.not_mem_nil) dX3_countCoupons_25
        · have hf := ie hf c5
          obtain ⟨x6, ex6⟩ : ∃ y : Int32, y = x1 + 1 := ⟨_, rfl⟩
          have hf := bd_s hf ex6
          refine lv_iinc (v := x6) (lv' := [(3, .int x6), (0, .int a0), (1, .int a1), (2, .int a2)]) hx hb dX3_countCoupons_18 hl (k := 3) rfl (by rw [ex6]; rfl) (by decide) rfl (fun ls hl => ?_)
          refine lv_goto (tgt := 2) hx hb dX3_countCoupons_21 (by decide) ?_
          exact ih2 x6 ls (lv_sub hl [1, 2, 3, 0] rfl) hf
  exact LP2 N 0 ls (lv_sub hl [1, 2, 3, 0] rfl) hf
theorem inX3_firstBehind_X3 : ∀ w ∈ wsX30, w ∈ wsX3_firstBehind := by decide +kernel
set_option maxHeartbeats 4000000 in
set_option maxRecDepth 100000 in
theorem m_X3_firstBehind (l : Launch) (D : va_G) (cI cJ cO : ClassId) (ah : Nat) (hs : Nat) (hd : Nat) (S : Nat → Int32) (T : Nat → Int64) (n : Nat) (ds : Nat → Int32) (a0 : Int32) (N : Nat) (r : Int32) (hf : f_X3_firstBehind N n ds a0 = some r) : Met l yX3_firstBehind wsX3_firstBehind ({ frames := 0, cells := 0, slots := 0, locals := 0 }) (va_Pc [.ref hs, .int a0] (pw D (ty3 cI cJ cO) (some ah) [eD cI hd n ds, eS hs hd S T])) (QSi r) 0 0 (fun _ => False) := by
  refine Met.ofW (cc := cX3_firstBehind) (maxL := 3) (ret := (some .int)) (by decide) rfl ?_
  intro p e s m args below meth c s₁ Bd hml hv
  obtain ⟨rfl, hZ, hP, hK⟩ := hv
  have hx := Bd.exec
  have hb := Bd.bytes
  have hr := Bd.returns
  have hts := atoms_spec (ws := wsX3_firstBehind) Bd.pre
  have hown : s.vm.findClass RX3 = some m.cls := findClass_of_methodNamed Bd.named
  have hlocks := Bd.notSynchronized
  have hl := lv_entry ([.ref hs, .int a0]) (n := 3) (Nat.le_of_ble_eq_true rfl)
  rw [lg_entry_eq]
  generalize (lg_sl ([.ref hs, .int a0]) ++ List.replicate (3 - (lg_sl ([.ref hs, .int a0])).length) Slot.unset).toArray = ls at hl ⊢
  have hl : lv_has ls 3 [(0, .ref hs), (1, .int a0)] := hl
  unfold f_X3_firstBehind at hf
  refine lv_iconst (v := 0) hx hb dX3_firstBehind_0 (by decide) ?_
  refine lv_istore_n (lv' := [(2, .int 0), (0, .ref hs), (1, .int a0)]) hx hb dX3_firstBehind_1 rfl hl (by decide) rfl (fun ls hl => ?_)
  have LP2 : ∀ (n2 : Nat) (x1 : Int32) (ls : Array Slot), lv_has ls 3 [(0, .ref hs), (1, .int a0), (2, .int x1)] → f_X3_firstBehind_L2 n a0 ds n2 x1 = some r → W p l e (headSpec wsX3_firstBehind ({ frames := 0, cells := 0, slots := 0, locals := 0 })).room s m ([.ref hs, .int a0] : List Value).toArray below meth c s.heap [] 0 0 (MQ below (QSi r) ([.ref hs, .int a0] : List Value).toArray s 0 0 (fun _ => False)) (F0 m 2 ls []) := by
    intro n2
    induction n2 with
    | zero => intro x1 ls hl hf; exact (no_s hf).elim
    | succ n2 ih2 =>
      intro x1 ls hl hf
      rw [f_X3_firstBehind_L2] at hf
      refine lv_iload_n hx hb dX3_firstBehind_2 rfl (lv_at hl 2 rfl) ?_
      refine lv_aload_n hx hb dX3_firstBehind_3 rfl (lv_at hl 0 rfl) ?_
      refine va_get (D := D) (ci := 2) (v := .ref hd) (C := RX3) (T := TX3) (N := 9) hx hb hts inX3_firstBehind_X3 hown hK hP 1 rfl rfl 6 (by decide) (hts (.fieldLink RX3 41 "BondDesk$Schedule" "dates" "[I") (by decide +kernel)) (fun _ h9 => h9) rfl dX3_firstBehind_4 ?_
      refine va_alen (v := nI n) hx hb hK hP 0 0 rfl rfl rfl dX3_firstBehind_7 ?_
      refine lv_icmp_ge (tgt := 27) hx hb dX3_firstBehind_8 (by decide) (fun c3 => ?_) (fun c3 => ?_)
      · have hf := it hf c3
        refine lv_iload_n hx hb dX3_firstBehind_27 rfl (lv_at hl 2 rfl) ?_
        exact W.iret hx hb hr (fun t ht _ => ⟨_, rfl, Option.some.inj hf, ht⟩) (fun q hq => absurd hq List.not_mem_nil) dX3_firstBehind_28
      · have hf := ie hf c3
        refine lv_aload_n hx hb dX3_firstBehind_11 rfl (lv_at hl 0 rfl) ?_
        refine va_get (D := D) (ci := 2) (v := .ref hd) (C := RX3) (T := TX3) (N := 9) hx hb hts inX3_firstBehind_X3 hown hK hP 1 rfl rfl 6 (by decide) (hts (.fieldLink RX3 41 "BondDesk$Schedule" "dates" "[I") (by decide +kernel)) (fun _ h9 => h9) rfl dX3_firstBehind_12 ?_
        refine lv_iload_n hx hb dX3_firstBehind_15 rfl (lv_at hl 2 rfl) ?_
        obtain ⟨c4, hf⟩ := gd_s hf
        refine va_iald hx hb hK hP 0 0 rfl rfl c4 dX3_firstBehind_16 ?_
        refine lv_iload_n hx hb dX3_firstBehind_17 rfl (lv_at hl 1 rfl) ?_
        refine lv_icmp_gt (tgt := 27) hx hb dX3_firstBehind_18 (by decide) (fun c5 => ?_) (fun c5 => ?_)
        · have hf := it hf c5
          refine lv_iload_n hx hb dX3_firstBehind_27 rfl (lv_at hl 2 rfl) ?_
          exact W.iret hx hb hr (fun t ht _ => ⟨_, rfl, Option.some.inj hf, ht⟩) (fun q hq => absurd hq List.not_mem_nil) dX3_firstBehind_28
        · have hf := ie hf c5
          obtain ⟨x6, ex6⟩ : ∃ y : Int32, y = x1 + 1 := ⟨_, rfl⟩
          have hf := bd_s hf ex6
          refine lv_iinc (v := x6) (lv' := [(2, .int x6), (0, .ref hs), (1, .int a0)]) hx hb dX3_firstBehind_21 hl (k := 2) rfl (by rw [ex6]; rfl) (by decide) rfl (fun ls hl => ?_)
          refine lv_goto (tgt := 2) hx hb dX3_firstBehind_24 (by decide) ?_
          exact ih2 x6 ls (lv_sub hl [1, 2, 0] rfl) hf
  exact LP2 N 0 ls (lv_sub hl [1, 2, 0] rfl) hf
theorem inX3_beginOf_X3 : ∀ w ∈ wsX30, w ∈ wsX3_beginOf := by decide +kernel
set_option maxHeartbeats 4000000 in
set_option maxRecDepth 100000 in
theorem m_X3_beginOf (l : Launch) (D : va_G) (cI cJ cO : ClassId) (ah : Nat) (hs : Nat) (hd : Nat) (S : Nat → Int32) (T : Nat → Int64) (n : Nat) (ds : Nat → Int32) (a0 : Int32) (r : Int32) (hf : f_X3_beginOf S n ds a0 = some r) : Met l yX3_beginOf wsX3_beginOf ({ frames := 0, cells := 0, slots := 0, locals := 0 }) (va_Pc [.ref hs, .int a0] (pw D (ty3 cI cJ cO) (some ah) [eD cI hd n ds, eS hs hd S T])) (QSi r) 0 0 (fun _ => False) := by
  refine Met.ofW (cc := cX3_beginOf) (maxL := 2) (ret := (some .int)) (by decide) rfl ?_
  intro p e s m args below meth c s₁ Bd hml hv
  obtain ⟨rfl, hZ, hP, hK⟩ := hv
  have hx := Bd.exec
  have hb := Bd.bytes
  have hr := Bd.returns
  have hts := atoms_spec (ws := wsX3_beginOf) Bd.pre
  have hown : s.vm.findClass RX3 = some m.cls := findClass_of_methodNamed Bd.named
  have hlocks := Bd.notSynchronized
  have hl := lv_entry ([.ref hs, .int a0]) (n := 2) (Nat.le_of_ble_eq_true rfl)
  rw [lg_entry_eq]
  generalize (lg_sl ([.ref hs, .int a0]) ++ List.replicate (2 - (lg_sl ([.ref hs, .int a0])).length) Slot.unset).toArray = ls at hl ⊢
  have hl : lv_has ls 2 [(0, .ref hs), (1, .int a0)] := hl
  unfold f_X3_beginOf at hf
  refine lv_iload_n hx hb dX3_beginOf_0 rfl (lv_at hl 1 rfl) ?_
  refine lv_iconst (v := 1) hx hb dX3_beginOf_1 (by decide) ?_
  refine lv_icmp_lt (tgt := 25) hx hb dX3_beginOf_2 (by decide) (fun c1 => ?_) (fun c1 => ?_)
  · have hf := it hf c1
    refine lv_aload_n hx hb dX3_beginOf_25 rfl (lv_at hl 0 rfl) ?_
    refine va_get (D := D) (ci := 2) (v := .int (S 0)) (C := RX3) (T := TX3) (N := 9) hx hb hts inX3_beginOf_X3 hown hK hP 1 rfl rfl 0 (by decide) (hts (.fieldLink RX3 7 "BondDesk$Schedule" "issue" "I") (by decide +kernel)) (fun _ h9 => h9) rfl dX3_beginOf_26 ?_
    exact W.iret hx hb hr (fun t ht _ => ⟨_, rfl, Option.some.inj hf, ht⟩) (fun q hq => absurd hq List.not_mem_nil) dX3_beginOf_29
  · have hf := ie hf c1
    refine lv_iload_n hx hb dX3_beginOf_5 rfl (lv_at hl 1 rfl) ?_
    refine lv_aload_n hx hb dX3_beginOf_6 rfl (lv_at hl 0 rfl) ?_
    refine va_get (D := D) (ci := 2) (v := .ref hd) (C := RX3) (T := TX3) (N := 9) hx hb hts inX3_beginOf_X3 hown hK hP 1 rfl rfl 6 (by decide) (hts (.fieldLink RX3 41 "BondDesk$Schedule" "dates" "[I") (by decide +kernel)) (fun _ h9 => h9) rfl dX3_beginOf_7 ?_
    refine va_alen (v := nI n) hx hb hK hP 0 0 rfl rfl rfl dX3_beginOf_10 ?_
    refine lv_icmp_gt (tgt := 25) hx hb dX3_beginOf_11 (by decide) (fun c2 => ?_) (fun c2 => ?_)
    · have hf := it hf c2
      refine lv_aload_n hx hb dX3_beginOf_25 rfl (lv_at hl 0 rfl) ?_
      refine va_get (D := D) (ci := 2) (v := .int (S 0)) (C := RX3) (T := TX3) (N := 9) hx hb hts inX3_beginOf_X3 hown hK hP 1 rfl rfl 0 (by decide) (hts (.fieldLink RX3 7 "BondDesk$Schedule" "issue" "I") (by decide +kernel)) (fun _ h9 => h9) rfl dX3_beginOf_26 ?_
      exact W.iret hx hb hr (fun t ht _ => ⟨_, rfl, Option.some.inj hf, ht⟩) (fun q hq => absurd hq List.not_mem_nil) dX3_beginOf_29
    · have hf := ie hf c2
      refine lv_aload_n hx hb dX3_beginOf_14 rfl (lv_at hl 0 rfl) ?_
      refine va_get (D := D) (ci := 2) (v := .ref hd) (C := RX3) (T := TX3) (N := 9) hx hb hts inX3_beginOf_X3 hown hK hP 1 rfl rfl 6 (by decide) (hts (.fieldLink RX3 41 "BondDesk$Schedule" "dates" "[I") (by decide +kernel)) (fun _ h9 => h9) rfl dX3_beginOf_15 ?_
      refine lv_iload_n hx hb dX3_beginOf_18 rfl (lv_at hl 1 rfl) ?_
      refine lv_iconst (v := 1) hx hb dX3_beginOf_19 (by decide) ?_
      refine lv_isub hx hb dX3_beginOf_20 ?_
      refine lv_topi (fun x3 ex3 => ?_)
      have hf := bd_s hf ex3
      obtain ⟨c4, hf⟩ := gd_s hf
      refine va_iald hx hb hK hP 0 0 rfl rfl c4 dX3_beginOf_21 ?_
      refine lv_goto (tgt := 29) hx hb dX3_beginOf_22 (by decide) ?_
      exact W.iret hx hb hr (fun t ht _ => ⟨_, rfl, Option.some.inj hf, ht⟩) (fun q hq => absurd hq List.not_mem_nil) dX3_beginOf_29
theorem inX3_couponFor_X3 : ∀ w ∈ wsX30, w ∈ wsX3_couponFor := by decide +kernel
set_option maxHeartbeats 4000000 in
set_option maxRecDepth 100000 in
theorem m_X3_couponFor (l : Launch) (D : va_G) (cI cJ cO : ClassId) (ah : Nat) (hs : Nat) (hd : Nat) (S : Nat → Int32) (T : Nat → Int64) (n : Nat) (ds : Nat → Int32) (a0 : Int32) (a1 : Int64) (r : Int64) (hf : f_X3_couponFor S T a0 a1 = some r) : Met l yX3_couponFor wsX3_couponFor ({ frames := 0, cells := 0, slots := 0, locals := 0 }) (va_Pc [.ref hs, .int a0, .long a1] (pw D (ty3 cI cJ cO) (some ah) [eD cI hd n ds, eS hs hd S T])) (QSl r) 0 0 (fun _ => False) := by
  refine Met.ofW (cc := cX3_couponFor) (maxL := 6) (ret := (some .long)) (by decide) rfl ?_
  intro p e s m args below meth c s₁ Bd hml hv
  obtain ⟨rfl, hZ, hP, hK⟩ := hv
  have hx := Bd.exec
  have hb := Bd.bytes
  have hr := Bd.returns
  have hts := atoms_spec (ws := wsX3_couponFor) Bd.pre
  have hown : s.vm.findClass RX3 = some m.cls := findClass_of_methodNamed Bd.named
  have hlocks := Bd.notSynchronized
  have hl := lv_entry ([.ref hs, .int a0, .long a1]) (n := 6) (Nat.le_of_ble_eq_true rfl)
  rw [lg_entry_eq]
  generalize (lg_sl ([.ref hs, .int a0, .long a1]) ++ List.replicate (6 - (lg_sl ([.ref hs, .int a0, .long a1])).length) Slot.unset).toArray = ls at hl ⊢
  have hl : lv_has ls 6 [(0, .ref hs), (1, .int a0), (2, .long a1)] := hl
  unfold f_X3_couponFor at hf
  refine lv_iload_n hx hb dX3_couponFor_0 rfl (lv_at hl 1 rfl) ?_
  obtain ⟨K1, hK1, hf⟩ := jn_s hf
  have JK1 : ∀  (ls : Array Slot), lv_has ls 6 [(0, .ref hs), (2, .long a1)] → K1 () = some r → W p l e (headSpec wsX3_couponFor ({ frames := 0, cells := 0, slots := 0, locals := 0 })).room s m ([.ref hs, .int a0, .long a1] : List Value).toArray below meth c s.heap [] 0 0 (MQ below (QSl r) ([.ref hs, .int a0, .long a1] : List Value).toArray s 0 0 (fun _ => False)) (F0 m 46 ls []) := by
    intro  ls hl hf
    rw [hK1] at hf
    refine lv_ldc2 hx hb hown (hts (.constantLong RX3 65 (10000)) (by decide +kernel)) dX3_couponFor_46 ?_
    refine lv_aload_n hx hb dX3_couponFor_49 rfl (lv_at hl 0 rfl) ?_
    refine va_get (D := D) (ci := 2) (v := .int (S 3)) (C := RX3) (T := TX3) (N := 9) hx hb hts inX3_couponFor_X3 hown hK hP 1 rfl rfl 3 (by decide) (hts (.fieldLink RX3 19 "BondDesk$Schedule" "perYear" "I") (by decide +kernel)) (fun _ h9 => h9) rfl dX3_couponFor_50 ?_
    refine lv_i2l hx hb dX3_couponFor_53 rfl ?_
    refine lv_lmul hx hb dX3_couponFor_54 ?_
    refine lv_topl (fun x2 ex2 => ?_)
    have hf := bd_s hf ex2
    refine lv_lstore (lv' := [(4, .long x2), (0, .ref hs), (2, .long a1)]) hx hb dX3_couponFor_55 hl (by decide) rfl (fun ls hl => ?_)
    refine lv_lload hx hb dX3_couponFor_57 (lv_at hl 0 rfl) ?_
    refine lv_lconst (v := 0) hx hb dX3_couponFor_59 (by decide) ?_
    refine W.lcmp hx hb dX3_couponFor_60 ?_
    refine lv_if_gt (tgt := 68) hx hb dX3_couponFor_61 (by decide) (fun c3 => ?_) (fun c3 => ?_)
    · have hf := it hf c3
      refine lv_lload_n hx hb dX3_couponFor_68 rfl (lv_at hl 2 rfl) ?_
      refine lv_aload_n hx hb dX3_couponFor_69 rfl (lv_at hl 1 rfl) ?_
      refine va_get (D := D) (ci := 2) (v := .int (S 2)) (C := RX3) (T := TX3) (N := 9) hx hb hts inX3_couponFor_X3 hown hK hP 1 rfl rfl 2 (by decide) (hts (.fieldLink RX3 16 "BondDesk$Schedule" "rate" "I") (by decide +kernel)) (fun _ h9 => h9) rfl dX3_couponFor_70 ?_
      refine lv_i2l hx hb dX3_couponFor_73 rfl ?_
      refine lv_lmul hx hb dX3_couponFor_74 ?_
      refine lv_lload hx hb dX3_couponFor_75 (lv_at hl 0 rfl) ?_
      obtain ⟨c4, hf⟩ := gd_s hf
      refine lv_ldiv hx hb dX3_couponFor_77 c4 ?_
      exact W.lret hx hb hr (fun t ht _ => ⟨_, rfl, Option.some.inj hf, ht⟩) (fun q hq => absurd hq List.not_mem_nil) dX3_couponFor_78
    · have hf := ie hf c3
      refine lv_lconst (v := 0) hx hb dX3_couponFor_64 (by decide) ?_
      refine lv_goto (tgt := 78) hx hb dX3_couponFor_65 (by decide) ?_
      exact W.lret hx hb hr (fun t ht _ => ⟨_, rfl, Option.some.inj hf, ht⟩) (fun q hq => absurd hq List.not_mem_nil) dX3_couponFor_78
  refine lv_if_ne (tgt := 46) hx hb dX3_couponFor_1 (by decide) (fun c5 => ?_) (fun c5 => ?_)
  · have hf := ie hf c5
    exact JK1  ls (lv_sub hl [0, 2] rfl) hf
  · have hf := it hf c5
    refine lv_aload_n hx hb dX3_couponFor_4 rfl (lv_at hl 0 rfl) ?_
    refine va_get (D := D) (ci := 2) (v := .int (S 5)) (C := RX3) (T := TX3) (N := 9) hx hb hts inX3_couponFor_X3 hown hK hP 1 rfl rfl 5 (by decide) (hts (.fieldLink RX3 29 "BondDesk$Schedule" "regularBegin" "I") (by decide +kernel)) (fun _ h9 => h9) rfl dX3_couponFor_5 ?_
    refine lv_aload_n hx hb dX3_couponFor_8 rfl (lv_at hl 0 rfl) ?_
    refine va_get (D := D) (ci := 2) (v := .int (S 0)) (C := RX3) (T := TX3) (N := 9) hx hb hts inX3_couponFor_X3 hown hK hP 1 rfl rfl 0 (by decide) (hts (.fieldLink RX3 7 "BondDesk$Schedule" "issue" "I") (by decide +kernel)) (fun _ h9 => h9) rfl dX3_couponFor_9 ?_
    refine lv_icmp_ge (tgt := 46) hx hb dX3_couponFor_12 (by decide) (fun c6 => ?_) (fun c6 => ?_)
    · have hf := it hf c6
      exact JK1  ls (lv_sub hl [0, 2] rfl) hf
    · have hf := ie hf c6
      refine lv_aload_n hx hb dX3_couponFor_15 rfl (lv_at hl 0 rfl) ?_
      refine va_get (D := D) (ci := 2) (v := .long (T 8)) (C := RX3) (T := TX3) (N := 9) hx hb hts inX3_couponFor_X3 hown hK hP 1 rfl rfl 8 (by decide) (hts (.fieldLink RX3 57 "BondDesk$Schedule" "firstYear" "J") (by decide +kernel)) (fun _ h9 => h9) rfl dX3_couponFor_16 ?_
      refine lv_lconst (v := 0) hx hb dX3_couponFor_19 (by decide) ?_
      refine W.lcmp hx hb dX3_couponFor_20 ?_
      refine lv_if_gt (tgt := 28) hx hb dX3_couponFor_21 (by decide) (fun c7 => ?_) (fun c7 => ?_)
      · have hf := it hf c7
        refine lv_lload_n hx hb dX3_couponFor_28 rfl (lv_at hl 2 rfl) ?_
        refine lv_aload_n hx hb dX3_couponFor_29 rfl (lv_at hl 0 rfl) ?_
        refine va_get (D := D) (ci := 2) (v := .int (S 2)) (C := RX3) (T := TX3) (N := 9) hx hb hts inX3_couponFor_X3 hown hK hP 1 rfl rfl 2 (by decide) (hts (.fieldLink RX3 16 "BondDesk$Schedule" "rate" "I") (by decide +kernel)) (fun _ h9 => h9) rfl dX3_couponFor_30 ?_
        refine lv_i2l hx hb dX3_couponFor_33 rfl ?_
        refine lv_lmul hx hb dX3_couponFor_34 ?_
        refine lv_aload_n hx hb dX3_couponFor_35 rfl (lv_at hl 0 rfl) ?_
        refine va_get (D := D) (ci := 2) (v := .long (T 7)) (C := RX3) (T := TX3) (N := 9) hx hb hts inX3_couponFor_X3 hown hK hP 1 rfl rfl 7 (by decide) (hts (.fieldLink RX3 49 "BondDesk$Schedule" "firstDays" "J") (by decide +kernel)) (fun _ h9 => h9) rfl dX3_couponFor_36 ?_
        refine lv_lmul hx hb dX3_couponFor_39 ?_
        refine lv_aload_n hx hb dX3_couponFor_40 rfl (lv_at hl 0 rfl) ?_
        refine va_get (D := D) (ci := 2) (v := .long (T 8)) (C := RX3) (T := TX3) (N := 9) hx hb hts inX3_couponFor_X3 hown hK hP 1 rfl rfl 8 (by decide) (hts (.fieldLink RX3 57 "BondDesk$Schedule" "firstYear" "J") (by decide +kernel)) (fun _ h9 => h9) rfl dX3_couponFor_41 ?_
        refine lv_topl (fun x8 ex8 => ?_)
        have hf := bd_s hf ex8
        obtain ⟨c9, hf⟩ := gd_s hf
        refine lv_ldiv hx hb dX3_couponFor_44 c9 ?_
        exact W.lret hx hb hr (fun t ht _ => ⟨_, rfl, Option.some.inj hf, ht⟩) (fun q hq => absurd hq List.not_mem_nil) dX3_couponFor_45
      · have hf := ie hf c7
        refine lv_lconst (v := 0) hx hb dX3_couponFor_24 (by decide) ?_
        refine lv_goto (tgt := 45) hx hb dX3_couponFor_25 (by decide) ?_
        exact W.lret hx hb hr (fun t ht _ => ⟨_, rfl, Option.some.inj hf, ht⟩) (fun q hq => absurd hq List.not_mem_nil) dX3_couponFor_45
theorem inX3_yearOfPeriod_X3 : ∀ w ∈ wsX30, w ∈ wsX3_yearOfPeriod := by decide +kernel
set_option maxHeartbeats 4000000 in
set_option maxRecDepth 100000 in
theorem m_X3_yearOfPeriod (l : Launch) (D : va_G) (cI cJ cO : ClassId) (ah : Nat) (hs : Nat) (hd : Nat) (S : Nat → Int32) (T : Nat → Int64) (n : Nat) (ds : Nat → Int32) (a0 : Int32) (r : Int64) (hf : f_X3_yearOfPeriod S n ds a0 = some r) : Met l yX3_yearOfPeriod wsX3_yearOfPeriod ({ frames := 2, cells := 0, slots := 0, locals := 45 }) (va_Pc [.ref hs, .int a0] (pw D (ty3 cI cJ cO) (some ah) [eD cI hd n ds, eS hs hd S T])) (QSl r) 0 0 (fun _ => False) := by
  refine Met.ofW (cc := cX3_yearOfPeriod) (maxL := 3) (ret := (some .long)) (by decide) rfl ?_
  intro p e s m args below meth c s₁ Bd hml hv
  obtain ⟨rfl, hZ, hP, hK⟩ := hv
  have hx := Bd.exec
  have hb := Bd.bytes
  have hr := Bd.returns
  have hts := atoms_spec (ws := wsX3_yearOfPeriod) Bd.pre
  have hown : s.vm.findClass RX3 = some m.cls := findClass_of_methodNamed Bd.named
  have hlocks := Bd.notSynchronized
  have hl := lv_entry ([.ref hs, .int a0]) (n := 3) (Nat.le_of_ble_eq_true rfl)
  rw [lg_entry_eq]
  generalize (lg_sl ([.ref hs, .int a0]) ++ List.replicate (3 - (lg_sl ([.ref hs, .int a0])).length) Slot.unset).toArray = ls at hl ⊢
  have hl : lv_has ls 3 [(0, .ref hs), (1, .int a0)] := hl
  unfold f_X3_yearOfPeriod at hf
  refine lv_aload_n hx hb dX3_yearOfPeriod_0 rfl (lv_at hl 0 rfl) ?_
  refine va_get (D := D) (ci := 2) (v := .int (S 4)) (C := RX3) (T := TX3) (N := 9) hx hb hts inX3_yearOfPeriod_X3 hown hK hP 1 rfl rfl 4 (by decide) (hts (.fieldLink RX3 22 "BondDesk$Schedule" "way" "I") (by decide +kernel)) (fun _ h9 => h9) rfl dX3_yearOfPeriod_1 ?_
  refine lv_iconst (v := 2) hx hb dX3_yearOfPeriod_4 (by decide) ?_
  refine lv_icmp_ne (tgt := 12) hx hb dX3_yearOfPeriod_5 (by decide) (fun c1 => ?_) (fun c1 => ?_)
  · have hf := ie hf c1
    refine lv_aload_n hx hb dX3_yearOfPeriod_12 rfl (lv_at hl 0 rfl) ?_
    refine va_get (D := D) (ci := 2) (v := .int (S 4)) (C := RX3) (T := TX3) (N := 9) hx hb hts inX3_yearOfPeriod_X3 hown hK hP 1 rfl rfl 4 (by decide) (hts (.fieldLink RX3 22 "BondDesk$Schedule" "way" "I") (by decide +kernel)) (fun _ h9 => h9) rfl dX3_yearOfPeriod_13 ?_
    refine lv_iconst (v := 3) hx hb dX3_yearOfPeriod_16 (by decide) ?_
    refine lv_icmp_ne (tgt := 33) hx hb dX3_yearOfPeriod_17 (by decide) (fun c2 => ?_) (fun c2 => ?_)
    · have hf := ie hf c2
      refine lv_ldc2 hx hb hown (hts (.constantLong RX3 82 (3600000)) (by decide +kernel)) dX3_yearOfPeriod_33 ?_
      exact W.lret hx hb hr (fun t ht _ => ⟨_, rfl, Option.some.inj hf, ht⟩) (fun q hq => absurd hq List.not_mem_nil) dX3_yearOfPeriod_36
    · have hf := it hf c2
      refine lv_iload_n hx hb dX3_yearOfPeriod_20 rfl (lv_at hl 1 rfl) ?_
      refine lv_if_lt (tgt := 33) hx hb dX3_yearOfPeriod_21 (by decide) (fun c3 => ?_) (fun c3 => ?_)
      · have hf := it hf c3
        refine lv_ldc2 hx hb hown (hts (.constantLong RX3 82 (3600000)) (by decide +kernel)) dX3_yearOfPeriod_33 ?_
        exact W.lret hx hb hr (fun t ht _ => ⟨_, rfl, Option.some.inj hf, ht⟩) (fun q hq => absurd hq List.not_mem_nil) dX3_yearOfPeriod_36
      · have hf := ie hf c3
        refine lv_iload_n hx hb dX3_yearOfPeriod_24 rfl (lv_at hl 1 rfl) ?_
        refine lv_aload_n hx hb dX3_yearOfPeriod_25 rfl (lv_at hl 0 rfl) ?_
        refine va_get (D := D) (ci := 2) (v := .ref hd) (C := RX3) (T := TX3) (N := 9) hx hb hts inX3_yearOfPeriod_X3 hown hK hP 1 rfl rfl 6 (by decide) (hts (.fieldLink RX3 41 "BondDesk$Schedule" "dates" "[I") (by decide +kernel)) (fun _ h9 => h9) rfl dX3_yearOfPeriod_26 ?_
        refine va_alen (v := nI n) hx hb hK hP 0 0 rfl rfl rfl dX3_yearOfPeriod_29 ?_
        refine lv_icmp_lt (tgt := 37) hx hb dX3_yearOfPeriod_30 (by decide) (fun c4 => ?_) (fun c4 => ?_)
        · have hf := it hf c4
          refine lv_iload_n hx hb dX3_yearOfPeriod_37 rfl (lv_at hl 1 rfl) ?_
          obtain ⟨K5, hK5, hf⟩ := jn_s hf
          have JK5 : ∀ (x6 : Int32) (ls : Array Slot), lv_has ls 3 [(0, .ref hs), (1, .int a0)] → K5 x6 = some r → W p l e (headSpec wsX3_yearOfPeriod ({ frames := 2, cells := 0, slots := 0, locals := 45 })).room s m ([.ref hs, .int a0] : List Value).toArray below meth c s.heap [] 0 0 (MQ below (QSl r) ([.ref hs, .int a0] : List Value).toArray s 0 0 (fun _ => False)) (F0 m 56 ls [.int x6]) := by
            intro x6 ls hl hf
            rw [hK5] at hf
            refine lv_istore_n (lv' := [(2, .int x6), (0, .ref hs), (1, .int a0)]) hx hb dX3_yearOfPeriod_56 rfl hl (by decide) rfl (fun ls hl => ?_)
            refine lv_ldc2 hx hb hown (hts (.constantLong RX3 65 (10000)) (by decide +kernel)) dX3_yearOfPeriod_57 ?_
            refine lv_aload_n hx hb dX3_yearOfPeriod_60 rfl (lv_at hl 1 rfl) ?_
            refine va_get (D := D) (ci := 2) (v := .int (S 3)) (C := RX3) (T := TX3) (N := 9) hx hb hts inX3_yearOfPeriod_X3 hown hK hP 1 rfl rfl 3 (by decide) (hts (.fieldLink RX3 19 "BondDesk$Schedule" "perYear" "I") (by decide +kernel)) (fun _ h9 => h9) rfl dX3_yearOfPeriod_61 ?_
            refine lv_i2l hx hb dX3_yearOfPeriod_64 rfl ?_
            refine lv_lmul hx hb dX3_yearOfPeriod_65 ?_
            refine lv_iload_n hx hb dX3_yearOfPeriod_66 rfl (lv_at hl 0 rfl) ?_
            refine lv_aload_n hx hb dX3_yearOfPeriod_67 rfl (lv_at hl 1 rfl) ?_
            refine va_get (D := D) (ci := 2) (v := .ref hd) (C := RX3) (T := TX3) (N := 9) hx hb hts inX3_yearOfPeriod_X3 hown hK hP 1 rfl rfl 6 (by decide) (hts (.fieldLink RX3 41 "BondDesk$Schedule" "dates" "[I") (by decide +kernel)) (fun _ h9 => h9) rfl dX3_yearOfPeriod_68 ?_
            refine lv_iload_n hx hb dX3_yearOfPeriod_71 rfl (lv_at hl 2 rfl) ?_
            obtain ⟨c7, hf⟩ := gd_s hf
            refine va_iald hx hb hK hP 0 0 rfl rfl c7 dX3_yearOfPeriod_72 ?_
            obtain ⟨v8, hv8, hf⟩ := ob hf
            refine cSi (W.runS (As := [.int x6, .int (ds a0.toNatClampNeg)]) (rest := [.long (10000 * ((S 3).toInt64))]) ⟨hx, hb, hml, hown, hts⟩ (m_X1_daysBetween l D cI cJ cO ah x6 (ds a0.toNatClampNeg) v8 hv8) (va_cwS 2 hts gX3_yearOfPeriod_X1_daysBetween rfl rfl rfl (by decide +kernel) ⟨(Nat.le_of_ble_eq_true rfl), (Nat.le_of_ble_eq_true rfl)⟩) ⟨pw_blind, fun U hU hW => ⟨rfl, pw_at hZ va_S.rf hP hK hU hW (Or.inr rfl) [] rfl⟩⟩ rfl rfl hl.1 rfl (lv_room (Nat.le_of_ble_eq_true rfl)) dX3_yearOfPeriod_73 ⟨(Nat.le_of_ble_eq_true rfl), (Nat.le_of_ble_eq_true rfl)⟩) ?_
            refine lv_i2l hx hb dX3_yearOfPeriod_76 rfl ?_
            refine lv_lmul hx hb dX3_yearOfPeriod_77 ?_
            exact W.lret hx hb hr (fun t ht _ => ⟨_, rfl, Option.some.inj hf, ht⟩) (fun q hq => absurd hq List.not_mem_nil) dX3_yearOfPeriod_78
          refine lv_if_ne (tgt := 48) hx hb dX3_yearOfPeriod_38 (by decide) (fun c9 => ?_) (fun c9 => ?_)
          · have hf := ie hf c9
            refine lv_aload_n hx hb dX3_yearOfPeriod_48 rfl (lv_at hl 0 rfl) ?_
            refine va_get (D := D) (ci := 2) (v := .ref hd) (C := RX3) (T := TX3) (N := 9) hx hb hts inX3_yearOfPeriod_X3 hown hK hP 1 rfl rfl 6 (by decide) (hts (.fieldLink RX3 41 "BondDesk$Schedule" "dates" "[I") (by decide +kernel)) (fun _ h9 => h9) rfl dX3_yearOfPeriod_49 ?_
            refine lv_iload_n hx hb dX3_yearOfPeriod_52 rfl (lv_at hl 1 rfl) ?_
            refine lv_iconst (v := 1) hx hb dX3_yearOfPeriod_53 (by decide) ?_
            refine lv_isub hx hb dX3_yearOfPeriod_54 ?_
            refine lv_topi (fun x10 ex10 => ?_)
            have hf := bd_s hf ex10
            obtain ⟨c11, hf⟩ := gd_s hf
            refine va_iald hx hb hK hP 0 0 rfl rfl c11 dX3_yearOfPeriod_55 ?_
            exact JK5 (ds x10.toNatClampNeg) ls (lv_sub hl [0, 1] rfl) hf
          · have hf := it hf c9
            refine lv_aload_n hx hb dX3_yearOfPeriod_41 rfl (lv_at hl 0 rfl) ?_
            refine va_get (D := D) (ci := 2) (v := .int (S 5)) (C := RX3) (T := TX3) (N := 9) hx hb hts inX3_yearOfPeriod_X3 hown hK hP 1 rfl rfl 5 (by decide) (hts (.fieldLink RX3 29 "BondDesk$Schedule" "regularBegin" "I") (by decide +kernel)) (fun _ h9 => h9) rfl dX3_yearOfPeriod_42 ?_
            refine lv_goto (tgt := 56) hx hb dX3_yearOfPeriod_45 (by decide) ?_
            exact JK5 (S 5) ls (lv_sub hl [0, 1] rfl) hf
        · have hf := ie hf c4
          refine lv_ldc2 hx hb hown (hts (.constantLong RX3 82 (3600000)) (by decide +kernel)) dX3_yearOfPeriod_33 ?_
          exact W.lret hx hb hr (fun t ht _ => ⟨_, rfl, Option.some.inj hf, ht⟩) (fun q hq => absurd hq List.not_mem_nil) dX3_yearOfPeriod_36
  · have hf := it hf c1
    refine lv_ldc2 hx hb hown (hts (.constantLong RX3 80 (3650000)) (by decide +kernel)) dX3_yearOfPeriod_8 ?_
    exact W.lret hx hb hr (fun t ht _ => ⟨_, rfl, Option.some.inj hf, ht⟩) (fun q hq => absurd hq List.not_mem_nil) dX3_yearOfPeriod_11
theorem inX3_daysCounted_X3 : ∀ w ∈ wsX30, w ∈ wsX3_daysCounted := by decide +kernel
set_option maxHeartbeats 4000000 in
set_option maxRecDepth 100000 in
theorem m_X3_daysCounted (l : Launch) (D : va_G) (cI cJ cO : ClassId) (ah : Nat) (hs : Nat) (hd : Nat) (S : Nat → Int32) (T : Nat → Int64) (n : Nat) (ds : Nat → Int32) (a0 : Int32) (a1 : Int32) (r : Int64) (hf : f_X3_daysCounted S a0 a1 = some r) : Met l yX3_daysCounted wsX3_daysCounted ({ frames := 2, cells := 0, slots := 0, locals := 45 }) (va_Pc [.ref hs, .int a0, .int a1] (pw D (ty3 cI cJ cO) (some ah) [eD cI hd n ds, eS hs hd S T])) (QSl r) 0 0 (fun _ => False) := by
  refine Met.ofW (cc := cX3_daysCounted) (maxL := 3) (ret := (some .long)) (by decide) rfl ?_
  intro p e s m args below meth c s₁ Bd hml hv
  obtain ⟨rfl, hZ, hP, hK⟩ := hv
  have hx := Bd.exec
  have hb := Bd.bytes
  have hr := Bd.returns
  have hts := atoms_spec (ws := wsX3_daysCounted) Bd.pre
  have hown : s.vm.findClass RX3 = some m.cls := findClass_of_methodNamed Bd.named
  have hlocks := Bd.notSynchronized
  have hl := lv_entry ([.ref hs, .int a0, .int a1]) (n := 3) (Nat.le_of_ble_eq_true rfl)
  rw [lg_entry_eq]
  generalize (lg_sl ([.ref hs, .int a0, .int a1]) ++ List.replicate (3 - (lg_sl ([.ref hs, .int a0, .int a1])).length) Slot.unset).toArray = ls at hl ⊢
  have hl : lv_has ls 3 [(0, .ref hs), (1, .int a0), (2, .int a1)] := hl
  unfold f_X3_daysCounted at hf
  refine lv_aload_n hx hb dX3_daysCounted_0 rfl (lv_at hl 0 rfl) ?_
  refine va_get (D := D) (ci := 2) (v := .int (S 4)) (C := RX3) (T := TX3) (N := 9) hx hb hts inX3_daysCounted_X3 hown hK hP 1 rfl rfl 4 (by decide) (hts (.fieldLink RX3 22 "BondDesk$Schedule" "way" "I") (by decide +kernel)) (fun _ h9 => h9) rfl dX3_daysCounted_1 ?_
  refine lv_if_ne (tgt := 16) hx hb dX3_daysCounted_4 (by decide) (fun c1 => ?_) (fun c1 => ?_)
  · have hf := ie hf c1
    refine lv_iload_n hx hb dX3_daysCounted_16 rfl (lv_at hl 1 rfl) ?_
    refine lv_iload_n hx hb dX3_daysCounted_17 rfl (lv_at hl 2 rfl) ?_
    obtain ⟨v2, hv2, hf⟩ := ob hf
    refine cSi (W.runS (As := [.int a0, .int a1]) (rest := []) ⟨hx, hb, hml, hown, hts⟩ (m_X1_daysBetween l D cI cJ cO ah a0 a1 v2 hv2) (va_cwS 2 hts gX3_daysCounted_X1_daysBetween rfl rfl rfl (by decide +kernel) ⟨(Nat.le_of_ble_eq_true rfl), (Nat.le_of_ble_eq_true rfl)⟩) ⟨pw_blind, fun U hU hW => ⟨rfl, pw_at hZ va_S.rf hP hK hU hW (Or.inr rfl) [] rfl⟩⟩ rfl rfl hl.1 rfl (lv_room (Nat.le_of_ble_eq_true rfl)) dX3_daysCounted_18 ⟨(Nat.le_of_ble_eq_true rfl), (Nat.le_of_ble_eq_true rfl)⟩) ?_
    refine lv_i2l hx hb dX3_daysCounted_21 rfl ?_
    exact W.lret hx hb hr (fun t ht _ => ⟨_, rfl, Option.some.inj hf, ht⟩) (fun q hq => absurd hq List.not_mem_nil) dX3_daysCounted_22
  · have hf := it hf c1
    refine lv_iload_n hx hb dX3_daysCounted_7 rfl (lv_at hl 1 rfl) ?_
    refine lv_iload_n hx hb dX3_daysCounted_8 rfl (lv_at hl 2 rfl) ?_
    obtain ⟨v3, hv3, hf⟩ := ob hf
    refine cSi (W.runS (As := [.int a0, .int a1]) (rest := []) ⟨hx, hb, hml, hown, hts⟩ (m_X1_daysOf30 l D cI cJ cO ah a0 a1 v3 hv3) (va_cwS 2 hts gX3_daysCounted_X1_daysOf30 rfl rfl rfl (by decide +kernel) ⟨(Nat.le_of_ble_eq_true rfl), (Nat.le_of_ble_eq_true rfl)⟩) ⟨pw_blind, fun U hU hW => ⟨rfl, pw_at hZ va_S.rf hP hK hU hW (Or.inr rfl) [] rfl⟩⟩ rfl rfl hl.1 rfl (lv_room (Nat.le_of_ble_eq_true rfl)) dX3_daysCounted_9 ⟨(Nat.le_of_ble_eq_true rfl), (Nat.le_of_ble_eq_true rfl)⟩) ?_
    refine lv_i2l hx hb dX3_daysCounted_12 rfl ?_
    refine lv_goto (tgt := 22) hx hb dX3_daysCounted_13 (by decide) ?_
    exact W.lret hx hb hr (fun t ht _ => ⟨_, rfl, Option.some.inj hf, ht⟩) (fun q hq => absurd hq List.not_mem_nil) dX3_daysCounted_22
theorem inX3_accruedFor_X3 : ∀ w ∈ wsX30, w ∈ wsX3_accruedFor := by decide +kernel
set_option maxHeartbeats 4000000 in
set_option maxRecDepth 100000 in
theorem m_X3_accruedFor (l : Launch) (D : va_G) (cI cJ cO : ClassId) (ah : Nat) (hs : Nat) (hd : Nat) (S : Nat → Int32) (T : Nat → Int64) (n : Nat) (ds : Nat → Int32) (a0 : Int32) (a1 : Int64) (N : Nat) (r : Int64) (hf : f_X3_accruedFor N S n ds a0 a1 = some r) : Met l yX3_accruedFor wsX3_accruedFor ({ frames := 3, cells := 0, slots := 0, locals := 67 }) (va_Pc [.ref hs, .int a0, .long a1] (pw D (ty3 cI cJ cO) (some ah) [eD cI hd n ds, eS hs hd S T])) (QSl r) 0 0 (fun _ => False) := by
  refine Met.ofW (cc := cX3_accruedFor) (maxL := 7) (ret := (some .long)) (by decide) rfl ?_
  intro p e s m args below meth c s₁ Bd hml hv
  obtain ⟨rfl, hZ, hP, hK⟩ := hv
  have hx := Bd.exec
  have hb := Bd.bytes
  have hr := Bd.returns
  have hts := atoms_spec (ws := wsX3_accruedFor) Bd.pre
  have hown : s.vm.findClass RX3 = some m.cls := findClass_of_methodNamed Bd.named
  have hlocks := Bd.notSynchronized
  have hl := lv_entry ([.ref hs, .int a0, .long a1]) (n := 7) (Nat.le_of_ble_eq_true rfl)
  rw [lg_entry_eq]
  generalize (lg_sl ([.ref hs, .int a0, .long a1]) ++ List.replicate (7 - (lg_sl ([.ref hs, .int a0, .long a1])).length) Slot.unset).toArray = ls at hl ⊢
  have hl : lv_has ls 7 [(0, .ref hs), (1, .int a0), (2, .long a1)] := hl
  unfold f_X3_accruedFor at hf
  refine lv_aload_n hx hb dX3_accruedFor_0 rfl (lv_at hl 0 rfl) ?_
  refine lv_iload_n hx hb dX3_accruedFor_1 rfl (lv_at hl 1 rfl) ?_
  obtain ⟨v1, hv1, hf⟩ := ob hf
  refine cSi (W.runV (As := [.int a0]) (rest := []) ⟨hx, hb, hml, hown, hts⟩ (m_X3_firstBehind l D cI cJ cO ah hs hd S T n ds a0 N v1 hv1) (cwV 1 hts gX3_accruedFor_X3_firstBehind rfl rfl rfl (by decide +kernel) ⟨(Nat.le_of_ble_eq_true rfl), (Nat.le_of_ble_eq_true rfl)⟩) ⟨pw_blind, va_recv hK hP (ci := 2) (q0 := 1) rfl rfl, fun U hU hW => ⟨rfl, pw_at hZ va_S.rf hP hK hU hW (Or.inr rfl) [0, 1] rfl⟩⟩ rfl rfl hl.1 rfl (lv_room (Nat.le_of_ble_eq_true rfl)) dX3_accruedFor_2 ⟨(Nat.le_of_ble_eq_true rfl), (Nat.le_of_ble_eq_true rfl)⟩) ?_
  refine lv_istore (lv' := [(4, .int v1), (0, .ref hs), (1, .int a0), (2, .long a1)]) hx hb dX3_accruedFor_5 hl (by decide) rfl (fun ls hl => ?_)
  refine lv_iload_n hx hb dX3_accruedFor_7 rfl (lv_at hl 2 rfl) ?_
  refine lv_aload_n hx hb dX3_accruedFor_8 rfl (lv_at hl 1 rfl) ?_
  refine va_get (D := D) (ci := 2) (v := .int (S 0)) (C := RX3) (T := TX3) (N := 9) hx hb hts inX3_accruedFor_X3 hown hK hP 1 rfl rfl 0 (by decide) (hts (.fieldLink RX3 7 "BondDesk$Schedule" "issue" "I") (by decide +kernel)) (fun _ h9 => h9) rfl dX3_accruedFor_9 ?_
  refine lv_icmp_lt (tgt := 25) hx hb dX3_accruedFor_12 (by decide) (fun c2 => ?_) (fun c2 => ?_)
  · have hf := it hf c2
    refine lv_lconst (v := 0) hx hb dX3_accruedFor_25 (by decide) ?_
    exact W.lret hx hb hr (fun t ht _ => ⟨_, rfl, Option.some.inj hf, ht⟩) (fun q hq => absurd hq List.not_mem_nil) dX3_accruedFor_26
  · have hf := ie hf c2
    refine lv_iload hx hb dX3_accruedFor_15 (lv_at hl 0 rfl) ?_
    refine lv_aload_n hx hb dX3_accruedFor_17 rfl (lv_at hl 1 rfl) ?_
    refine va_get (D := D) (ci := 2) (v := .ref hd) (C := RX3) (T := TX3) (N := 9) hx hb hts inX3_accruedFor_X3 hown hK hP 1 rfl rfl 6 (by decide) (hts (.fieldLink RX3 41 "BondDesk$Schedule" "dates" "[I") (by decide +kernel)) (fun _ h9 => h9) rfl dX3_accruedFor_18 ?_
    refine va_alen (v := nI n) hx hb hK hP 0 0 rfl rfl rfl dX3_accruedFor_21 ?_
    refine lv_icmp_lt (tgt := 27) hx hb dX3_accruedFor_22 (by decide) (fun c3 => ?_) (fun c3 => ?_)
    · have hf := it hf c3
      refine lv_aload_n hx hb dX3_accruedFor_27 rfl (lv_at hl 1 rfl) ?_
      refine lv_iload hx hb dX3_accruedFor_28 (lv_at hl 0 rfl) ?_
      obtain ⟨v4, hv4, hf⟩ := ob hf
      refine cSl (W.runV (As := [.int v1]) (rest := []) ⟨hx, hb, hml, hown, hts⟩ (m_X3_yearOfPeriod l D cI cJ cO ah hs hd S T n ds v1 v4 hv4) (cwV 1 hts gX3_accruedFor_X3_yearOfPeriod rfl rfl rfl (by decide +kernel) ⟨(Nat.le_of_ble_eq_true rfl), (Nat.le_of_ble_eq_true rfl)⟩) ⟨pw_blind, va_recv hK hP (ci := 2) (q0 := 1) rfl rfl, fun U hU hW => ⟨rfl, pw_at hZ va_S.rf hP hK hU hW (Or.inr rfl) [0, 1] rfl⟩⟩ rfl rfl hl.1 rfl (lv_room (Nat.le_of_ble_eq_true rfl)) dX3_accruedFor_30 ⟨(Nat.le_of_ble_eq_true rfl), (Nat.le_of_ble_eq_true rfl)⟩) ?_
      refine lv_lstore (lv' := [(5, .long v4), (4, .int v1), (0, .ref hs), (1, .int a0), (2, .long a1)]) hx hb dX3_accruedFor_33 hl (by decide) rfl (fun ls hl => ?_)
      refine lv_lload hx hb dX3_accruedFor_35 (lv_at hl 0 rfl) ?_
      refine lv_lconst (v := 0) hx hb dX3_accruedFor_37 (by decide) ?_
      refine W.lcmp hx hb dX3_accruedFor_38 ?_
      refine lv_if_gt (tgt := 46) hx hb dX3_accruedFor_39 (by decide) (fun c5 => ?_) (fun c5 => ?_)
      · have hf := it hf c5
        refine lv_lload_n hx hb dX3_accruedFor_46 rfl (lv_at hl 4 rfl) ?_
        refine lv_aload_n hx hb dX3_accruedFor_47 rfl (lv_at hl 2 rfl) ?_
        refine va_get (D := D) (ci := 2) (v := .int (S 2)) (C := RX3) (T := TX3) (N := 9) hx hb hts inX3_accruedFor_X3 hown hK hP 1 rfl rfl 2 (by decide) (hts (.fieldLink RX3 16 "BondDesk$Schedule" "rate" "I") (by decide +kernel)) (fun _ h9 => h9) rfl dX3_accruedFor_48 ?_
        refine lv_i2l hx hb dX3_accruedFor_51 rfl ?_
        refine lv_lmul hx hb dX3_accruedFor_52 ?_
        refine lv_aload_n hx hb dX3_accruedFor_53 rfl (lv_at hl 2 rfl) ?_
        refine lv_aload_n hx hb dX3_accruedFor_54 rfl (lv_at hl 2 rfl) ?_
        refine lv_iload hx hb dX3_accruedFor_55 (lv_at hl 1 rfl) ?_
        obtain ⟨v6, hv6, hf⟩ := ob hf
        refine cSi (W.runV (As := [.int v1]) (rest := [.ref hs, .long (a1 * ((S 2).toInt64))]) ⟨hx, hb, hml, hown, hts⟩ (m_X3_beginOf l D cI cJ cO ah hs hd S T n ds v1 v6 hv6) (cwV 1 hts gX3_accruedFor_X3_beginOf rfl rfl rfl (by decide +kernel) ⟨(Nat.le_of_ble_eq_true rfl), (Nat.le_of_ble_eq_true rfl)⟩) ⟨pw_blind, va_recv hK hP (ci := 2) (q0 := 1) rfl rfl, fun U hU hW => ⟨rfl, pw_at hZ va_S.rf hP hK hU hW (Or.inr rfl) [0, 1] rfl⟩⟩ rfl rfl hl.1 rfl (lv_room (Nat.le_of_ble_eq_true rfl)) dX3_accruedFor_57 ⟨(Nat.le_of_ble_eq_true rfl), (Nat.le_of_ble_eq_true rfl)⟩) ?_
        refine lv_iload_n hx hb dX3_accruedFor_60 rfl (lv_at hl 3 rfl) ?_
        obtain ⟨v7, hv7, hf⟩ := ob hf
        refine cSl (W.runV (As := [.int v6, .int a0]) (rest := [.long (a1 * ((S 2).toInt64))]) ⟨hx, hb, hml, hown, hts⟩ (m_X3_daysCounted l D cI cJ cO ah hs hd S T n ds v6 a0 v7 hv7) (cwV 2 hts gX3_accruedFor_X3_daysCounted rfl rfl rfl (by decide +kernel) ⟨(Nat.le_of_ble_eq_true rfl), (Nat.le_of_ble_eq_true rfl)⟩) ⟨pw_blind, va_recv hK hP (ci := 2) (q0 := 1) rfl rfl, fun U hU hW => ⟨rfl, pw_at hZ va_S.rf hP hK hU hW (Or.inr rfl) [0, 1] rfl⟩⟩ rfl rfl hl.1 rfl (lv_room (Nat.le_of_ble_eq_true rfl)) dX3_accruedFor_61 ⟨(Nat.le_of_ble_eq_true rfl), (Nat.le_of_ble_eq_true rfl)⟩) ?_
        refine lv_lmul hx hb dX3_accruedFor_64 ?_
        refine lv_lload hx hb dX3_accruedFor_65 (lv_at hl 0 rfl) ?_
        obtain ⟨c8, hf⟩ := gd_s hf
        refine lv_ldiv hx hb dX3_accruedFor_67 c8 ?_
        exact W.lret hx hb hr (fun t ht _ => ⟨_, rfl, Option.some.inj hf, ht⟩) (fun q hq => absurd hq List.not_mem_nil) dX3_accruedFor_68
      · have hf := ie hf c5
        refine lv_lconst (v := 0) hx hb dX3_accruedFor_42 (by decide) ?_
        refine lv_goto (tgt := 68) hx hb dX3_accruedFor_43 (by decide) ?_
        exact W.lret hx hb hr (fun t ht _ => ⟨_, rfl, Option.some.inj hf, ht⟩) (fun q hq => absurd hq List.not_mem_nil) dX3_accruedFor_68
    · have hf := ie hf c3
      refine lv_lconst (v := 0) hx hb dX3_accruedFor_25 (by decide) ?_
      exact W.lret hx hb hr (fun t ht _ => ⟨_, rfl, Option.some.inj hf, ht⟩) (fun q hq => absurd hq List.not_mem_nil) dX3_accruedFor_26
theorem inX0_isGone_X0 : ∀ w ∈ wsX00, w ∈ wsX0_isGone := by decide +kernel
set_option maxHeartbeats 4000000 in
set_option maxRecDepth 100000 in
theorem m_X0_isGone (l : Launch) (D : va_G) (cI cJ cO : ClassId) (ah : Nat) (ht : Nat) (hs : Nat) (hd : Nat) (B : Nat → Int32) (S : Nat → Int32) (T : Nat → Int64) (n : Nat) (ds : Nat → Int32) (r : Int32) (hf : f_X0_isGone B = some r) : Met l yX0_isGone wsX0_isGone ({ frames := 0, cells := 0, slots := 0, locals := 0 }) (va_Pc [.ref ht] (pw D (ty3 cI cJ cO) (some ah) [eD cI hd n ds, eS hs hd S T, eB ht hs B])) (QSz r) 0 0 (fun _ => False) := by
  refine Met.ofW (cc := cX0_isGone) (maxL := 1) (ret := (some .boolean)) (by decide) rfl ?_
  intro p e s m args below meth c s₁ Bd hml hv
  obtain ⟨rfl, hZ, hP, hK⟩ := hv
  have hx := Bd.exec
  have hb := Bd.bytes
  have hr := Bd.returns
  have hts := atoms_spec (ws := wsX0_isGone) Bd.pre
  have hown : s.vm.findClass RX0 = some m.cls := findClass_of_methodNamed Bd.named
  have hlocks := Bd.notSynchronized
  have hl := lv_entry ([.ref ht]) (n := 1) (Nat.le_of_ble_eq_true rfl)
  rw [lg_entry_eq]
  generalize (lg_sl ([.ref ht]) ++ List.replicate (1 - (lg_sl ([.ref ht])).length) Slot.unset).toArray = ls at hl ⊢
  have hl : lv_has ls 1 [(0, .ref ht)] := hl
  unfold f_X0_isGone at hf
  refine lv_aload_n hx hb dX0_isGone_0 rfl (lv_at hl 0 rfl) ?_
  refine va_get (D := D) (ci := 0) (v := .int (B 2)) (C := RX0) (T := TX0) (N := 9) hx hb hts inX0_isGone_X0 hown hK hP 2 rfl rfl 2 (by decide) (hts (.fieldLink RX0 28 "BondDesk$Bond" "state" "I") (by decide +kernel)) (fun _ h9 => h9) rfl dX0_isGone_1 ?_
  refine lv_if_eq (tgt := 11) hx hb dX0_isGone_4 (by decide) (fun c1 => ?_) (fun c1 => ?_)
  · have hf := it hf c1
    refine lv_iconst (v := 0) hx hb dX0_isGone_11 (by decide) ?_
    exact W.zret hx hb hr (zn (Or.inl rfl)) (fun t ht _ => ⟨_, rfl, ⟨Option.some.inj hf, (Or.inl rfl)⟩, ht⟩) (fun q hq => absurd hq List.not_mem_nil) dX0_isGone_12
  · have hf := ie hf c1
    refine lv_iconst (v := 1) hx hb dX0_isGone_7 (by decide) ?_
    refine lv_goto (tgt := 12) hx hb dX0_isGone_8 (by decide) ?_
    exact W.zret hx hb hr (zn (Or.inr rfl)) (fun t ht _ => ⟨_, rfl, ⟨Option.some.inj hf, (Or.inr rfl)⟩, ht⟩) (fun q hq => absurd hq List.not_mem_nil) dX0_isGone_12
theorem inX0_isIssued_X0 : ∀ w ∈ wsX00, w ∈ wsX0_isIssued := by decide +kernel
theorem inX0_isIssued_X3 : ∀ w ∈ wsX30, w ∈ wsX0_isIssued := by decide +kernel
set_option maxHeartbeats 4000000 in
set_option maxRecDepth 100000 in
theorem m_X0_isIssued (l : Launch) (D : va_G) (cI cJ cO : ClassId) (ah : Nat) (ht : Nat) (hs : Nat) (hd : Nat) (B : Nat → Int32) (S : Nat → Int32) (T : Nat → Int64) (n : Nat) (ds : Nat → Int32) (a0 : Int32) (r : Int32) (hf : f_X0_isIssued S a0 = some r) : Met l yX0_isIssued wsX0_isIssued ({ frames := 0, cells := 0, slots := 0, locals := 0 }) (va_Pc [.ref ht, .int a0] (pw D (ty3 cI cJ cO) (some ah) [eD cI hd n ds, eS hs hd S T, eB ht hs B])) (QSz r) 0 0 (fun _ => False) := by
  refine Met.ofW (cc := cX0_isIssued) (maxL := 2) (ret := (some .boolean)) (by decide) rfl ?_
  intro p e s m args below meth c s₁ Bd hml hv
  obtain ⟨rfl, hZ, hP, hK⟩ := hv
  have hx := Bd.exec
  have hb := Bd.bytes
  have hr := Bd.returns
  have hts := atoms_spec (ws := wsX0_isIssued) Bd.pre
  have hown : s.vm.findClass RX0 = some m.cls := findClass_of_methodNamed Bd.named
  have hlocks := Bd.notSynchronized
  have hl := lv_entry ([.ref ht, .int a0]) (n := 2) (Nat.le_of_ble_eq_true rfl)
  rw [lg_entry_eq]
  generalize (lg_sl ([.ref ht, .int a0]) ++ List.replicate (2 - (lg_sl ([.ref ht, .int a0])).length) Slot.unset).toArray = ls at hl ⊢
  have hl : lv_has ls 2 [(0, .ref ht), (1, .int a0)] := hl
  unfold f_X0_isIssued at hf
  refine lv_aload_n hx hb dX0_isIssued_0 rfl (lv_at hl 0 rfl) ?_
  refine va_get (D := D) (ci := 0) (v := .ref hs) (C := RX0) (T := TX0) (N := 9) hx hb hts inX0_isIssued_X0 hown hK hP 2 rfl rfl 0 (by decide) (hts (.fieldLink RX0 9 "BondDesk$Bond" "schedule" "LBondDesk$Schedule;") (by decide +kernel)) (fun _ h9 => h9) rfl dX0_isIssued_1 ?_
  refine va_get (D := D) (ci := 2) (v := .int (S 0)) (C := RX3) (T := TX3) (N := 9) hx hb hts inX0_isIssued_X3 hown hK hP 1 rfl rfl 0 (by decide) (hts (.fieldLink RX0 31 "BondDesk$Schedule" "issue" "I") (by decide +kernel)) (fun _ h9 => h9) rfl dX0_isIssued_4 ?_
  refine lv_iload_n hx hb dX0_isIssued_7 rfl (lv_at hl 1 rfl) ?_
  refine lv_icmp_gt (tgt := 15) hx hb dX0_isIssued_8 (by decide) (fun c1 => ?_) (fun c1 => ?_)
  · have hf := it hf c1
    refine lv_iconst (v := 0) hx hb dX0_isIssued_15 (by decide) ?_
    exact W.zret hx hb hr (zn (Or.inl rfl)) (fun t ht _ => ⟨_, rfl, ⟨Option.some.inj hf, (Or.inl rfl)⟩, ht⟩) (fun q hq => absurd hq List.not_mem_nil) dX0_isIssued_16
  · have hf := ie hf c1
    refine lv_iconst (v := 1) hx hb dX0_isIssued_11 (by decide) ?_
    refine lv_goto (tgt := 16) hx hb dX0_isIssued_12 (by decide) ?_
    exact W.zret hx hb hr (zn (Or.inr rfl)) (fun t ht _ => ⟨_, rfl, ⟨Option.some.inj hf, (Or.inr rfl)⟩, ht⟩) (fun q hq => absurd hq List.not_mem_nil) dX0_isIssued_16
theorem inX0_isRung_X0 : ∀ w ∈ wsX00, w ∈ wsX0_isRung := by decide +kernel
theorem inX0_isRung_X3 : ∀ w ∈ wsX30, w ∈ wsX0_isRung := by decide +kernel
set_option maxHeartbeats 4000000 in
set_option maxRecDepth 100000 in
theorem m_X0_isRung (l : Launch) (D : va_G) (cI cJ cO : ClassId) (ah : Nat) (ht : Nat) (hs : Nat) (hd : Nat) (B : Nat → Int32) (S : Nat → Int32) (T : Nat → Int64) (n : Nat) (ds : Nat → Int32) (a0 : Int32) (a1 : Int32) (r : Int32) (hf : f_X0_isRung B S a0 a1 = some r) : Met l yX0_isRung wsX0_isRung ({ frames := 1, cells := 0, slots := 0, locals := 21 }) (va_Pc [.ref ht, .int a0, .int a1] (pw D (ty3 cI cJ cO) (some ah) [eD cI hd n ds, eS hs hd S T, eB ht hs B])) (QSz r) 0 0 (fun _ => False) := by
  refine Met.ofW (cc := cX0_isRung) (maxL := 3) (ret := (some .boolean)) (by decide) rfl ?_
  intro p e s m args below meth c s₁ Bd hml hv
  obtain ⟨rfl, hZ, hP, hK⟩ := hv
  have hx := Bd.exec
  have hb := Bd.bytes
  have hr := Bd.returns
  have hts := atoms_spec (ws := wsX0_isRung) Bd.pre
  have hown : s.vm.findClass RX0 = some m.cls := findClass_of_methodNamed Bd.named
  have hlocks := Bd.notSynchronized
  have hl := lv_entry ([.ref ht, .int a0, .int a1]) (n := 3) (Nat.le_of_ble_eq_true rfl)
  rw [lg_entry_eq]
  generalize (lg_sl ([.ref ht, .int a0, .int a1]) ++ List.replicate (3 - (lg_sl ([.ref ht, .int a0, .int a1])).length) Slot.unset).toArray = ls at hl ⊢
  have hl : lv_has ls 3 [(0, .ref ht), (1, .int a0), (2, .int a1)] := hl
  unfold f_X0_isRung at hf
  refine lv_aload_n hx hb dX0_isRung_0 rfl (lv_at hl 0 rfl) ?_
  obtain ⟨v1, hv1, hf⟩ := ob hf
  refine cSz (W.runV (As := []) (rest := []) ⟨hx, hb, hml, hown, hts⟩ (m_X0_isGone l D cI cJ cO ah ht hs hd B S T n ds v1 hv1) (cwV 0 hts gX0_isRung_X0_isGone rfl rfl rfl (by decide +kernel) ⟨(Nat.le_of_ble_eq_true rfl), (Nat.le_of_ble_eq_true rfl)⟩) ⟨pw_blind, va_recv hK hP (ci := 0) (q0 := 2) rfl rfl, fun U hU hW => ⟨rfl, pw_at hZ va_S.rf hP hK hU hW (Or.inr rfl) [0, 1, 2] rfl⟩⟩ rfl rfl hl.1 rfl (lv_room (Nat.le_of_ble_eq_true rfl)) dX0_isRung_1 ⟨(Nat.le_of_ble_eq_true rfl), (Nat.le_of_ble_eq_true rfl)⟩) (fun zv1 => ?_)
  refine lv_if_ne (tgt := 44) hx hb dX0_isRung_4 (by decide) (fun c2 => ?_) (fun c2 => ?_)
  · have hf := ie hf c2
    refine lv_iconst (v := 0) hx hb dX0_isRung_44 (by decide) ?_
    exact W.zret hx hb hr (zn (Or.inl rfl)) (fun t ht _ => ⟨_, rfl, ⟨Option.some.inj hf, (Or.inl rfl)⟩, ht⟩) (fun q hq => absurd hq List.not_mem_nil) dX0_isRung_45
  · have hf := it hf c2
    refine lv_aload_n hx hb dX0_isRung_7 rfl (lv_at hl 0 rfl) ?_
    refine lv_iload_n hx hb dX0_isRung_8 rfl (lv_at hl 2 rfl) ?_
    obtain ⟨v3, hv3, hf⟩ := ob hf
    refine cSz (W.runV (As := [.int a1]) (rest := []) ⟨hx, hb, hml, hown, hts⟩ (m_X0_isIssued l D cI cJ cO ah ht hs hd B S T n ds a1 v3 hv3) (cwV 1 hts gX0_isRung_X0_isIssued rfl rfl rfl (by decide +kernel) ⟨(Nat.le_of_ble_eq_true rfl), (Nat.le_of_ble_eq_true rfl)⟩) ⟨pw_blind, va_recv hK hP (ci := 0) (q0 := 2) rfl rfl, fun U hU hW => ⟨rfl, pw_at hZ va_S.rf hP hK hU hW (Or.inr rfl) [0, 1, 2] rfl⟩⟩ rfl rfl hl.1 rfl (lv_room (Nat.le_of_ble_eq_true rfl)) dX0_isRung_9 ⟨(Nat.le_of_ble_eq_true rfl), (Nat.le_of_ble_eq_true rfl)⟩) (fun zv3 => ?_)
    refine lv_if_eq (tgt := 44) hx hb dX0_isRung_12 (by decide) (fun c4 => ?_) (fun c4 => ?_)
    · have hf := it hf c4
      refine lv_iconst (v := 0) hx hb dX0_isRung_44 (by decide) ?_
      exact W.zret hx hb hr (zn (Or.inl rfl)) (fun t ht _ => ⟨_, rfl, ⟨Option.some.inj hf, (Or.inl rfl)⟩, ht⟩) (fun q hq => absurd hq List.not_mem_nil) dX0_isRung_45
    · have hf := ie hf c4
      refine lv_aload_n hx hb dX0_isRung_15 rfl (lv_at hl 0 rfl) ?_
      refine va_get (D := D) (ci := 0) (v := .ref hs) (C := RX0) (T := TX0) (N := 9) hx hb hts inX0_isRung_X0 hown hK hP 2 rfl rfl 0 (by decide) (hts (.fieldLink RX0 9 "BondDesk$Bond" "schedule" "LBondDesk$Schedule;") (by decide +kernel)) (fun _ h9 => h9) rfl dX0_isRung_16 ?_
      refine va_get (D := D) (ci := 2) (v := .int (S 1)) (C := RX3) (T := TX3) (N := 9) hx hb hts inX0_isRung_X3 hown hK hP 1 rfl rfl 1 (by decide) (hts (.fieldLink RX0 42 "BondDesk$Schedule" "end" "I") (by decide +kernel)) (fun _ h9 => h9) rfl dX0_isRung_19 ?_
      refine lv_iload_n hx hb dX0_isRung_22 rfl (lv_at hl 2 rfl) ?_
      refine lv_icmp_le (tgt := 44) hx hb dX0_isRung_23 (by decide) (fun c5 => ?_) (fun c5 => ?_)
      · have hf := it hf c5
        refine lv_iconst (v := 0) hx hb dX0_isRung_44 (by decide) ?_
        exact W.zret hx hb hr (zn (Or.inl rfl)) (fun t ht _ => ⟨_, rfl, ⟨Option.some.inj hf, (Or.inl rfl)⟩, ht⟩) (fun q hq => absurd hq List.not_mem_nil) dX0_isRung_45
      · have hf := ie hf c5
        refine lv_aload_n hx hb dX0_isRung_26 rfl (lv_at hl 0 rfl) ?_
        refine va_get (D := D) (ci := 0) (v := .ref hs) (C := RX0) (T := TX0) (N := 9) hx hb hts inX0_isRung_X0 hown hK hP 2 rfl rfl 0 (by decide) (hts (.fieldLink RX0 9 "BondDesk$Bond" "schedule" "LBondDesk$Schedule;") (by decide +kernel)) (fun _ h9 => h9) rfl dX0_isRung_27 ?_
        refine va_get (D := D) (ci := 2) (v := .int (S 1)) (C := RX3) (T := TX3) (N := 9) hx hb hts inX0_isRung_X3 hown hK hP 1 rfl rfl 1 (by decide) (hts (.fieldLink RX0 42 "BondDesk$Schedule" "end" "I") (by decide +kernel)) (fun _ h9 => h9) rfl dX0_isRung_30 ?_
        obtain ⟨v6, hv6, hf⟩ := ob hf
        refine cSi (W.runS (As := [.int (S 1)]) (rest := []) ⟨hx, hb, hml, hown, hts⟩ (m_X1_yearOf l D cI cJ cO ah (S 1) v6 hv6) (va_cwS 1 hts gX0_isRung_X1_yearOf rfl rfl rfl (by decide +kernel) ⟨(Nat.le_of_ble_eq_true rfl), (Nat.le_of_ble_eq_true rfl)⟩) ⟨pw_blind, fun U hU hW => ⟨rfl, pw_at hZ va_S.rf hP hK hU hW (Or.inr rfl) [] rfl⟩⟩ rfl rfl hl.1 rfl (lv_room (Nat.le_of_ble_eq_true rfl)) dX0_isRung_33 ⟨(Nat.le_of_ble_eq_true rfl), (Nat.le_of_ble_eq_true rfl)⟩) ?_
        refine lv_iload_n hx hb dX0_isRung_36 rfl (lv_at hl 1 rfl) ?_
        refine lv_icmp_ne (tgt := 44) hx hb dX0_isRung_37 (by decide) (fun c7 => ?_) (fun c7 => ?_)
        · have hf := ie hf c7
          refine lv_iconst (v := 0) hx hb dX0_isRung_44 (by decide) ?_
          exact W.zret hx hb hr (zn (Or.inl rfl)) (fun t ht _ => ⟨_, rfl, ⟨Option.some.inj hf, (Or.inl rfl)⟩, ht⟩) (fun q hq => absurd hq List.not_mem_nil) dX0_isRung_45
        · have hf := it hf c7
          refine lv_iconst (v := 1) hx hb dX0_isRung_40 (by decide) ?_
          refine lv_goto (tgt := 45) hx hb dX0_isRung_41 (by decide) ?_
          exact W.zret hx hb hr (zn (Or.inr rfl)) (fun t ht _ => ⟨_, rfl, ⟨Option.some.inj hf, (Or.inr rfl)⟩, ht⟩) (fun q hq => absurd hq List.not_mem_nil) dX0_isRung_45
set_option maxHeartbeats 4000000 in
set_option maxRecDepth 100000 in
theorem m_X0_faceOf (l : Launch) (D : va_G) (cI cJ cO : ClassId) (ah : Nat) (a0 : Int32) (r : Int64) (hf : f_X0_faceOf a0 = some r) : Met l yX0_faceOf wsX0_faceOf ({ frames := 0, cells := 0, slots := 0, locals := 0 }) (va_Pc [.int a0] (pw D (ty3 cI cJ cO) (some ah) [])) (QSl r) 0 0 (fun _ => False) := by
  refine Met.ofW (cc := cX0_faceOf) (maxL := 1) (ret := (some .long)) (by decide) rfl ?_
  intro p e s m args below meth c s₁ Bd hml hv
  obtain ⟨rfl, hZ, hP, hK⟩ := hv
  have hx := Bd.exec
  have hb := Bd.bytes
  have hr := Bd.returns
  have hts := atoms_spec (ws := wsX0_faceOf) Bd.pre
  have hown : s.vm.findClass RX0 = some m.cls := findClass_of_methodNamed Bd.named
  have hlocks := Bd.notSynchronized
  have hl := lv_entry ([.int a0]) (n := 1) (Nat.le_of_ble_eq_true rfl)
  rw [lg_entry_eq]
  generalize (lg_sl ([.int a0]) ++ List.replicate (1 - (lg_sl ([.int a0])).length) Slot.unset).toArray = ls at hl ⊢
  have hl : lv_has ls 1 [(0, .int a0)] := hl
  unfold f_X0_faceOf at hf
  refine lv_ldc2 hx hb hown (hts (.constantLong RX0 50 (100000)) (by decide +kernel)) dX0_faceOf_0 ?_
  refine lv_iload_n hx hb dX0_faceOf_3 rfl (lv_at hl 0 rfl) ?_
  refine lv_i2l hx hb dX0_faceOf_4 rfl ?_
  refine lv_lmul hx hb dX0_faceOf_5 ?_
  refine lv_ldc2 hx hb hown (hts (.constantLong RX0 52 (10000)) (by decide +kernel)) dX0_faceOf_6 ?_
  refine lv_ldiv hx hb dX0_faceOf_9 (by decide) ?_
  exact W.lret hx hb hr (fun t ht _ => ⟨_, rfl, Option.some.inj hf, ht⟩) (fun q hq => absurd hq List.not_mem_nil) dX0_faceOf_10
theorem inX0_face_X0 : ∀ w ∈ wsX00, w ∈ wsX0_face := by decide +kernel
set_option maxHeartbeats 4000000 in
set_option maxRecDepth 100000 in
theorem m_X0_face (l : Launch) (D : va_G) (cI cJ cO : ClassId) (ah : Nat) (ht : Nat) (hs : Nat) (hd : Nat) (B : Nat → Int32) (S : Nat → Int32) (T : Nat → Int64) (n : Nat) (ds : Nat → Int32) (r : Int64) (hf : f_X0_face B = some r) : Met l yX0_face wsX0_face ({ frames := 1, cells := 0, slots := 0, locals := 20 }) (va_Pc [.ref ht] (pw D (ty3 cI cJ cO) (some ah) [eD cI hd n ds, eS hs hd S T, eB ht hs B])) (QSl r) 0 0 (fun _ => False) := by
  refine Met.ofW (cc := cX0_face) (maxL := 1) (ret := (some .long)) (by decide) rfl ?_
  intro p e s m args below meth c s₁ Bd hml hv
  obtain ⟨rfl, hZ, hP, hK⟩ := hv
  have hx := Bd.exec
  have hb := Bd.bytes
  have hr := Bd.returns
  have hts := atoms_spec (ws := wsX0_face) Bd.pre
  have hown : s.vm.findClass RX0 = some m.cls := findClass_of_methodNamed Bd.named
  have hlocks := Bd.notSynchronized
  have hl := lv_entry ([.ref ht]) (n := 1) (Nat.le_of_ble_eq_true rfl)
  rw [lg_entry_eq]
  generalize (lg_sl ([.ref ht]) ++ List.replicate (1 - (lg_sl ([.ref ht])).length) Slot.unset).toArray = ls at hl ⊢
  have hl : lv_has ls 1 [(0, .ref ht)] := hl
  unfold f_X0_face at hf
  refine lv_aload_n hx hb dX0_face_0 rfl (lv_at hl 0 rfl) ?_
  refine va_get (D := D) (ci := 0) (v := .int (B 1)) (C := RX0) (T := TX0) (N := 9) hx hb hts inX0_face_X0 hown hK hP 2 rfl rfl 1 (by decide) (hts (.fieldLink RX0 15 "BondDesk$Bond" "factor" "I") (by decide +kernel)) (fun _ h9 => h9) rfl dX0_face_1 ?_
  obtain ⟨v1, hv1, hf⟩ := ob hf
  refine cSl (W.runS (As := [.int (B 1)]) (rest := []) ⟨hx, hb, hml, hown, hts⟩ (m_X0_faceOf l D cI cJ cO ah (B 1) v1 hv1) (va_cwS 1 hts gX0_face_X0_faceOf rfl rfl rfl (by decide +kernel) ⟨(Nat.le_of_ble_eq_true rfl), (Nat.le_of_ble_eq_true rfl)⟩) ⟨pw_blind, fun U hU hW => ⟨rfl, pw_at hZ va_S.rf hP hK hU hW (Or.inr rfl) [] rfl⟩⟩ rfl rfl hl.1 rfl (lv_room (Nat.le_of_ble_eq_true rfl)) dX0_face_4 ⟨(Nat.le_of_ble_eq_true rfl), (Nat.le_of_ble_eq_true rfl)⟩) ?_
  exact W.lret hx hb hr (fun t ht _ => ⟨_, rfl, Option.some.inj hf, ht⟩) (fun q hq => absurd hq List.not_mem_nil) dX0_face_7
theorem inX0_accruedOn_X0 : ∀ w ∈ wsX00, w ∈ wsX0_accruedOn := by decide +kernel
set_option maxHeartbeats 4000000 in
set_option maxRecDepth 100000 in
theorem m_X0_accruedOn (l : Launch) (D : va_G) (cI cJ cO : ClassId) (ah : Nat) (ht : Nat) (hs : Nat) (hd : Nat) (B : Nat → Int32) (S : Nat → Int32) (T : Nat → Int64) (n : Nat) (ds : Nat → Int32) (a0 : Int32) (N : Nat) (r : Int64) (hf : f_X0_accruedOn N B S n ds a0 = some r) : Met l yX0_accruedOn wsX0_accruedOn ({ frames := 4, cells := 0, slots := 0, locals := 93 }) (va_Pc [.ref ht, .int a0] (pw D (ty3 cI cJ cO) (some ah) [eD cI hd n ds, eS hs hd S T, eB ht hs B])) (QSl r) 0 0 (fun _ => False) := by
  refine Met.ofW (cc := cX0_accruedOn) (maxL := 2) (ret := (some .long)) (by decide) rfl ?_
  intro p e s m args below meth c s₁ Bd hml hv
  obtain ⟨rfl, hZ, hP, hK⟩ := hv
  have hx := Bd.exec
  have hb := Bd.bytes
  have hr := Bd.returns
  have hts := atoms_spec (ws := wsX0_accruedOn) Bd.pre
  have hown : s.vm.findClass RX0 = some m.cls := findClass_of_methodNamed Bd.named
  have hlocks := Bd.notSynchronized
  have hl := lv_entry ([.ref ht, .int a0]) (n := 2) (Nat.le_of_ble_eq_true rfl)
  rw [lg_entry_eq]
  generalize (lg_sl ([.ref ht, .int a0]) ++ List.replicate (2 - (lg_sl ([.ref ht, .int a0])).length) Slot.unset).toArray = ls at hl ⊢
  have hl : lv_has ls 2 [(0, .ref ht), (1, .int a0)] := hl
  unfold f_X0_accruedOn at hf
  refine lv_aload_n hx hb dX0_accruedOn_0 rfl (lv_at hl 0 rfl) ?_
  obtain ⟨v1, hv1, hf⟩ := ob hf
  refine cSz (W.runV (As := []) (rest := []) ⟨hx, hb, hml, hown, hts⟩ (m_X0_isGone l D cI cJ cO ah ht hs hd B S T n ds v1 hv1) (cwV 0 hts gX0_accruedOn_X0_isGone rfl rfl rfl (by decide +kernel) ⟨(Nat.le_of_ble_eq_true rfl), (Nat.le_of_ble_eq_true rfl)⟩) ⟨pw_blind, va_recv hK hP (ci := 0) (q0 := 2) rfl rfl, fun U hU hW => ⟨rfl, pw_at hZ va_S.rf hP hK hU hW (Or.inr rfl) [0, 1, 2] rfl⟩⟩ rfl rfl hl.1 rfl (lv_room (Nat.le_of_ble_eq_true rfl)) dX0_accruedOn_1 ⟨(Nat.le_of_ble_eq_true rfl), (Nat.le_of_ble_eq_true rfl)⟩) (fun zv1 => ?_)
  refine lv_if_eq (tgt := 11) hx hb dX0_accruedOn_4 (by decide) (fun c2 => ?_) (fun c2 => ?_)
  · have hf := it hf c2
    refine lv_aload_n hx hb dX0_accruedOn_11 rfl (lv_at hl 0 rfl) ?_
    refine va_get (D := D) (ci := 0) (v := .ref hs) (C := RX0) (T := TX0) (N := 9) hx hb hts inX0_accruedOn_X0 hown hK hP 2 rfl rfl 0 (by decide) (hts (.fieldLink RX0 9 "BondDesk$Bond" "schedule" "LBondDesk$Schedule;") (by decide +kernel)) (fun _ h9 => h9) rfl dX0_accruedOn_12 ?_
    refine lv_iload_n hx hb dX0_accruedOn_15 rfl (lv_at hl 1 rfl) ?_
    refine lv_aload_n hx hb dX0_accruedOn_16 rfl (lv_at hl 0 rfl) ?_
    obtain ⟨v3, hv3, hf⟩ := ob hf
    refine cSl (W.runV (As := []) (rest := [.int a0, .ref hs]) ⟨hx, hb, hml, hown, hts⟩ (m_X0_face l D cI cJ cO ah ht hs hd B S T n ds v3 hv3) (cwV 0 hts gX0_accruedOn_X0_face rfl rfl rfl (by decide +kernel) ⟨(Nat.le_of_ble_eq_true rfl), (Nat.le_of_ble_eq_true rfl)⟩) ⟨pw_blind, va_recv hK hP (ci := 0) (q0 := 2) rfl rfl, fun U hU hW => ⟨rfl, pw_at hZ va_S.rf hP hK hU hW (Or.inr rfl) [0, 1, 2] rfl⟩⟩ rfl rfl hl.1 rfl (lv_room (Nat.le_of_ble_eq_true rfl)) dX0_accruedOn_17 ⟨(Nat.le_of_ble_eq_true rfl), (Nat.le_of_ble_eq_true rfl)⟩) ?_
    obtain ⟨v4, hv4, hf⟩ := ob hf
    refine cSl (W.runV (As := [.int a0, .long v3]) (rest := []) ⟨hx, hb, hml, hown, hts⟩ (m_X3_accruedFor l D cI cJ cO ah hs hd S T n ds a0 v3 N v4 hv4) (cwV 2 hts gX0_accruedOn_X3_accruedFor rfl rfl rfl (by decide +kernel) ⟨(Nat.le_of_ble_eq_true rfl), (Nat.le_of_ble_eq_true rfl)⟩) ⟨pw_blind, va_recv hK hP (ci := 2) (q0 := 1) rfl rfl, fun U hU hW => ⟨rfl, pw_at hZ va_S.rf hP hK hU hW (Or.inr rfl) [0, 1] rfl⟩⟩ rfl rfl hl.1 rfl (lv_room (Nat.le_of_ble_eq_true rfl)) dX0_accruedOn_20 ⟨(Nat.le_of_ble_eq_true rfl), (Nat.le_of_ble_eq_true rfl)⟩) ?_
    exact W.lret hx hb hr (fun t ht _ => ⟨_, rfl, Option.some.inj hf, ht⟩) (fun q hq => absurd hq List.not_mem_nil) dX0_accruedOn_23
  · have hf := ie hf c2
    refine lv_lconst (v := 0) hx hb dX0_accruedOn_7 (by decide) ?_
    refine lv_goto (tgt := 23) hx hb dX0_accruedOn_8 (by decide) ?_
    exact W.lret hx hb hr (fun t ht _ => ⟨_, rfl, Option.some.inj hf, ht⟩) (fun q hq => absurd hq List.not_mem_nil) dX0_accruedOn_23
theorem inX0_fullPrice_X0 : ∀ w ∈ wsX00, w ∈ wsX0_fullPrice := by decide +kernel
set_option maxHeartbeats 4000000 in
set_option maxRecDepth 100000 in
theorem m_X0_fullPrice (l : Launch) (D : va_G) (cI cJ cO : ClassId) (ah : Nat) (ht : Nat) (hs : Nat) (hd : Nat) (B : Nat → Int32) (S : Nat → Int32) (T : Nat → Int64) (n : Nat) (ds : Nat → Int32) (a0 : Int32) (a1 : Int32) (N : Nat) (r : Int64) (hf : f_X0_fullPrice N B S n ds a0 a1 = some r) : Met l yX0_fullPrice wsX0_fullPrice ({ frames := 4, cells := 0, slots := 0, locals := 93 }) (va_Pc [.ref ht, .int a0, .int a1] (pw D (ty3 cI cJ cO) (some ah) [eD cI hd n ds, eS hs hd S T, eB ht hs B])) (QSl r) 0 0 (fun _ => False) := by
  refine Met.ofW (cc := cX0_fullPrice) (maxL := 3) (ret := (some .long)) (by decide) rfl ?_
  intro p e s m args below meth c s₁ Bd hml hv
  obtain ⟨rfl, hZ, hP, hK⟩ := hv
  have hx := Bd.exec
  have hb := Bd.bytes
  have hr := Bd.returns
  have hts := atoms_spec (ws := wsX0_fullPrice) Bd.pre
  have hown : s.vm.findClass RX0 = some m.cls := findClass_of_methodNamed Bd.named
  have hlocks := Bd.notSynchronized
  have hl := lv_entry ([.ref ht, .int a0, .int a1]) (n := 3) (Nat.le_of_ble_eq_true rfl)
  rw [lg_entry_eq]
  generalize (lg_sl ([.ref ht, .int a0, .int a1]) ++ List.replicate (3 - (lg_sl ([.ref ht, .int a0, .int a1])).length) Slot.unset).toArray = ls at hl ⊢
  have hl : lv_has ls 3 [(0, .ref ht), (1, .int a0), (2, .int a1)] := hl
  unfold f_X0_fullPrice at hf
  refine lv_aload_n hx hb dX0_fullPrice_0 rfl (lv_at hl 0 rfl) ?_
  obtain ⟨v1, hv1, hf⟩ := ob hf
  refine cSl (W.runV (As := []) (rest := []) ⟨hx, hb, hml, hown, hts⟩ (m_X0_face l D cI cJ cO ah ht hs hd B S T n ds v1 hv1) (cwV 0 hts gX0_fullPrice_X0_face rfl rfl rfl (by decide +kernel) ⟨(Nat.le_of_ble_eq_true rfl), (Nat.le_of_ble_eq_true rfl)⟩) ⟨pw_blind, va_recv hK hP (ci := 0) (q0 := 2) rfl rfl, fun U hU hW => ⟨rfl, pw_at hZ va_S.rf hP hK hU hW (Or.inr rfl) [0, 1, 2] rfl⟩⟩ rfl rfl hl.1 rfl (lv_room (Nat.le_of_ble_eq_true rfl)) dX0_fullPrice_1 ⟨(Nat.le_of_ble_eq_true rfl), (Nat.le_of_ble_eq_true rfl)⟩) ?_
  refine lv_iload_n hx hb dX0_fullPrice_4 rfl (lv_at hl 2 rfl) ?_
  refine lv_i2l hx hb dX0_fullPrice_5 rfl ?_
  refine lv_lmul hx hb dX0_fullPrice_6 ?_
  refine lv_ldc2 hx hb hown (hts (.constantLong RX0 52 (10000)) (by decide +kernel)) dX0_fullPrice_7 ?_
  refine lv_ldiv hx hb dX0_fullPrice_10 (by decide) ?_
  refine lv_aload_n hx hb dX0_fullPrice_11 rfl (lv_at hl 0 rfl) ?_
  refine va_get (D := D) (ci := 0) (v := .ref hs) (C := RX0) (T := TX0) (N := 9) hx hb hts inX0_fullPrice_X0 hown hK hP 2 rfl rfl 0 (by decide) (hts (.fieldLink RX0 9 "BondDesk$Bond" "schedule" "LBondDesk$Schedule;") (by decide +kernel)) (fun _ h9 => h9) rfl dX0_fullPrice_12 ?_
  refine lv_iload_n hx hb dX0_fullPrice_15 rfl (lv_at hl 1 rfl) ?_
  refine lv_aload_n hx hb dX0_fullPrice_16 rfl (lv_at hl 0 rfl) ?_
  obtain ⟨v2, hv2, hf⟩ := ob hf
  refine cSl (W.runV (As := []) (rest := [.int a0, .ref hs, .long ((v1 * a1.toInt64) / 10000)]) ⟨hx, hb, hml, hown, hts⟩ (m_X0_face l D cI cJ cO ah ht hs hd B S T n ds v2 hv2) (cwV 0 hts gX0_fullPrice_X0_face rfl rfl rfl (by decide +kernel) ⟨(Nat.le_of_ble_eq_true rfl), (Nat.le_of_ble_eq_true rfl)⟩) ⟨pw_blind, va_recv hK hP (ci := 0) (q0 := 2) rfl rfl, fun U hU hW => ⟨rfl, pw_at hZ va_S.rf hP hK hU hW (Or.inr rfl) [0, 1, 2] rfl⟩⟩ rfl rfl hl.1 rfl (lv_room (Nat.le_of_ble_eq_true rfl)) dX0_fullPrice_17 ⟨(Nat.le_of_ble_eq_true rfl), (Nat.le_of_ble_eq_true rfl)⟩) ?_
  obtain ⟨v3, hv3, hf⟩ := ob hf
  refine cSl (W.runV (As := [.int a0, .long v2]) (rest := [.long ((v1 * a1.toInt64) / 10000)]) ⟨hx, hb, hml, hown, hts⟩ (m_X3_accruedFor l D cI cJ cO ah hs hd S T n ds a0 v2 N v3 hv3) (cwV 2 hts gX0_fullPrice_X3_accruedFor rfl rfl rfl (by decide +kernel) ⟨(Nat.le_of_ble_eq_true rfl), (Nat.le_of_ble_eq_true rfl)⟩) ⟨pw_blind, va_recv hK hP (ci := 2) (q0 := 1) rfl rfl, fun U hU hW => ⟨rfl, pw_at hZ va_S.rf hP hK hU hW (Or.inr rfl) [0, 1] rfl⟩⟩ rfl rfl hl.1 rfl (lv_room (Nat.le_of_ble_eq_true rfl)) dX0_fullPrice_20 ⟨(Nat.le_of_ble_eq_true rfl), (Nat.le_of_ble_eq_true rfl)⟩) ?_
  refine lv_ladd hx hb dX0_fullPrice_23 ?_
  exact W.lret hx hb hr (fun t ht _ => ⟨_, rfl, Option.some.inj hf, ht⟩) (fun q hq => absurd hq List.not_mem_nil) dX0_fullPrice_24
theorem inX0_isEnd_X0 : ∀ w ∈ wsX00, w ∈ wsX0_isEnd := by decide +kernel
theorem inX0_isEnd_X3 : ∀ w ∈ wsX30, w ∈ wsX0_isEnd := by decide +kernel
set_option maxHeartbeats 4000000 in
set_option maxRecDepth 100000 in
theorem m_X0_isEnd (l : Launch) (D : va_G) (cI cJ cO : ClassId) (ah : Nat) (ht : Nat) (hs : Nat) (hd : Nat) (B : Nat → Int32) (S : Nat → Int32) (T : Nat → Int64) (n : Nat) (ds : Nat → Int32) (a0 : Int32) (r : Int32) (hf : f_X0_isEnd n a0 = some r) : Met l yX0_isEnd wsX0_isEnd ({ frames := 0, cells := 0, slots := 0, locals := 0 }) (va_Pc [.ref ht, .int a0] (pw D (ty3 cI cJ cO) (some ah) [eD cI hd n ds, eS hs hd S T, eB ht hs B])) (QSz r) 0 0 (fun _ => False) := by
  refine Met.ofW (cc := cX0_isEnd) (maxL := 2) (ret := (some .boolean)) (by decide) rfl ?_
  intro p e s m args below meth c s₁ Bd hml hv
  obtain ⟨rfl, hZ, hP, hK⟩ := hv
  have hx := Bd.exec
  have hb := Bd.bytes
  have hr := Bd.returns
  have hts := atoms_spec (ws := wsX0_isEnd) Bd.pre
  have hown : s.vm.findClass RX0 = some m.cls := findClass_of_methodNamed Bd.named
  have hlocks := Bd.notSynchronized
  have hl := lv_entry ([.ref ht, .int a0]) (n := 2) (Nat.le_of_ble_eq_true rfl)
  rw [lg_entry_eq]
  generalize (lg_sl ([.ref ht, .int a0]) ++ List.replicate (2 - (lg_sl ([.ref ht, .int a0])).length) Slot.unset).toArray = ls at hl ⊢
  have hl : lv_has ls 2 [(0, .ref ht), (1, .int a0)] := hl
  unfold f_X0_isEnd at hf
  refine lv_iload_n hx hb dX0_isEnd_0 rfl (lv_at hl 1 rfl) ?_
  refine lv_aload_n hx hb dX0_isEnd_1 rfl (lv_at hl 0 rfl) ?_
  refine va_get (D := D) (ci := 0) (v := .ref hs) (C := RX0) (T := TX0) (N := 9) hx hb hts inX0_isEnd_X0 hown hK hP 2 rfl rfl 0 (by decide) (hts (.fieldLink RX0 9 "BondDesk$Bond" "schedule" "LBondDesk$Schedule;") (by decide +kernel)) (fun _ h9 => h9) rfl dX0_isEnd_2 ?_
  refine va_get (D := D) (ci := 2) (v := .ref hd) (C := RX3) (T := TX3) (N := 9) hx hb hts inX0_isEnd_X3 hown hK hP 1 rfl rfl 6 (by decide) (hts (.fieldLink RX0 66 "BondDesk$Schedule" "dates" "[I") (by decide +kernel)) (fun _ h9 => h9) rfl dX0_isEnd_5 ?_
  refine va_alen (v := nI n) hx hb hK hP 0 0 rfl rfl rfl dX0_isEnd_8 ?_
  refine lv_iconst (v := 1) hx hb dX0_isEnd_9 (by decide) ?_
  refine lv_isub hx hb dX0_isEnd_10 ?_
  refine lv_icmp_ne (tgt := 18) hx hb dX0_isEnd_11 (by decide) (fun c1 => ?_) (fun c1 => ?_)
  · have hf := ie hf c1
    refine lv_iconst (v := 0) hx hb dX0_isEnd_18 (by decide) ?_
    exact W.zret hx hb hr (zn (Or.inl rfl)) (fun t ht _ => ⟨_, rfl, ⟨Option.some.inj hf, (Or.inl rfl)⟩, ht⟩) (fun q hq => absurd hq List.not_mem_nil) dX0_isEnd_19
  · have hf := it hf c1
    refine lv_iconst (v := 1) hx hb dX0_isEnd_14 (by decide) ?_
    refine lv_goto (tgt := 19) hx hb dX0_isEnd_15 (by decide) ?_
    exact W.zret hx hb hr (zn (Or.inr rfl)) (fun t ht _ => ⟨_, rfl, ⟨Option.some.inj hf, (Or.inr rfl)⟩, ht⟩) (fun q hq => absurd hq List.not_mem_nil) dX0_isEnd_19
theorem inX0_sunkOn_X0 : ∀ w ∈ wsX00, w ∈ wsX0_sunkOn := by decide +kernel
theorem inX0_sunkOn_X3 : ∀ w ∈ wsX30, w ∈ wsX0_sunkOn := by decide +kernel
set_option maxHeartbeats 4000000 in
set_option maxRecDepth 100000 in
theorem m_X0_sunkOn (l : Launch) (D : va_G) (cI cJ cO : ClassId) (ah : Nat) (ht : Nat) (hs : Nat) (hd : Nat) (B : Nat → Int32) (S : Nat → Int32) (T : Nat → Int64) (n : Nat) (ds : Nat → Int32) (a0 : Int32) (a1 : Int32) (r : Int32) (hf : f_X0_sunkOn B n ds a0 a1 = some r) : Met l yX0_sunkOn wsX0_sunkOn ({ frames := 1, cells := 0, slots := 0, locals := 13 }) (va_Pc [.ref ht, .int a0, .int a1] (pw D (ty3 cI cJ cO) (some ah) [eD cI hd n ds, eS hs hd S T, eB ht hs B])) (QSi r) 0 0 (fun _ => False) := by
  refine Met.ofW (cc := cX0_sunkOn) (maxL := 4) (ret := (some .int)) (by decide) rfl ?_
  intro p e s m args below meth c s₁ Bd hml hv
  obtain ⟨rfl, hZ, hP, hK⟩ := hv
  have hx := Bd.exec
  have hb := Bd.bytes
  have hr := Bd.returns
  have hts := atoms_spec (ws := wsX0_sunkOn) Bd.pre
  have hown : s.vm.findClass RX0 = some m.cls := findClass_of_methodNamed Bd.named
  have hlocks := Bd.notSynchronized
  have hl := lv_entry ([.ref ht, .int a0, .int a1]) (n := 4) (Nat.le_of_ble_eq_true rfl)
  rw [lg_entry_eq]
  generalize (lg_sl ([.ref ht, .int a0, .int a1]) ++ List.replicate (4 - (lg_sl ([.ref ht, .int a0, .int a1])).length) Slot.unset).toArray = ls at hl ⊢
  have hl : lv_has ls 4 [(0, .ref ht), (1, .int a0), (2, .int a1)] := hl
  unfold f_X0_sunkOn at hf
  refine lv_iload_n hx hb dX0_sunkOn_0 rfl (lv_at hl 1 rfl) ?_
  obtain ⟨K1, hK1, hf⟩ := jn_s hf
  have JK1 : ∀ (x2 : Int32) (ls : Array Slot), lv_has ls 4 [(0, .ref ht), (2, .int a1)] → K1 x2 = some r → W p l e (headSpec wsX0_sunkOn ({ frames := 1, cells := 0, slots := 0, locals := 13 })).room s m ([.ref ht, .int a0, .int a1] : List Value).toArray below meth c s.heap [] 0 0 (MQ below (QSi r) ([.ref ht, .int a0, .int a1] : List Value).toArray s 0 0 (fun _ => False)) (F0 m 39 ls [.int x2]) := by
    intro x2 ls hl hf
    rw [hK1] at hf
    refine lv_istore_n (lv' := [(3, .int x2), (0, .ref ht), (2, .int a1)]) hx hb dX0_sunkOn_39 rfl hl (by decide) rfl (fun ls hl => ?_)
    refine lv_iload_n hx hb dX0_sunkOn_40 rfl (lv_at hl 0 rfl) ?_
    refine lv_if_eq (tgt := 55) hx hb dX0_sunkOn_41 (by decide) (fun c3 => ?_) (fun c3 => ?_)
    · have hf := it hf c3
      refine lv_iconst (v := 0) hx hb dX0_sunkOn_55 (by decide) ?_
      exact W.iret hx hb hr (fun t ht _ => ⟨_, rfl, Option.some.inj hf, ht⟩) (fun q hq => absurd hq List.not_mem_nil) dX0_sunkOn_56
    · have hf := ie hf c3
      refine lv_aload_n hx hb dX0_sunkOn_44 rfl (lv_at hl 1 rfl) ?_
      refine va_get (D := D) (ci := 0) (v := .int (B 6)) (C := RX0) (T := TX0) (N := 9) hx hb hts inX0_sunkOn_X0 hown hK hP 2 rfl rfl 6 (by decide) (hts (.fieldLink RX0 73 "BondDesk$Bond" "sinkPart" "I") (by decide +kernel)) (fun _ h9 => h9) rfl dX0_sunkOn_45 ?_
      refine lv_iload_n hx hb dX0_sunkOn_48 rfl (lv_at hl 2 rfl) ?_
      refine va_mmin hx hb (hml.trans hl.1.symm) hown (hts (.methodLink RX0 76 Lib.Math.min.name) (by decide +kernel)) (hts (.static Lib.Math.min.name) (by decide +kernel)) (hts (.initialized "java/lang/Math") (by decide +kernel)) (hts (.code Lib.Math.min.name Lib.Math.min.code 2 (some .int)) (by decide +kernel)) (Nat.le_of_ble_eq_true rfl) (Nat.le_of_ble_eq_true rfl) (Nat.le_of_ble_eq_true rfl) (Nat.le_of_ble_eq_true rfl) dX0_sunkOn_49 ?_
      refine lv_topi (fun x4 ex4 => ?_)
      have hf := bd_s hf ex4
      refine lv_goto (tgt := 56) hx hb dX0_sunkOn_52 (by decide) ?_
      exact W.iret hx hb hr (fun t ht _ => ⟨_, rfl, Option.some.inj hf, ht⟩) (fun q hq => absurd hq List.not_mem_nil) dX0_sunkOn_56
  obtain ⟨K5, hK5, hf⟩ := jn_s hf
  have JK5 : ∀  (ls : Array Slot), lv_has ls 4 [(0, .ref ht), (2, .int a1)] → K5 () = some r → W p l e (headSpec wsX0_sunkOn ({ frames := 1, cells := 0, slots := 0, locals := 13 })).room s m ([.ref ht, .int a0, .int a1] : List Value).toArray below meth c s.heap [] 0 0 (MQ below (QSi r) ([.ref ht, .int a0, .int a1] : List Value).toArray s 0 0 (fun _ => False)) (F0 m 38 ls []) := by
    intro  ls hl hf
    rw [hK5] at hf
    refine lv_iconst (v := 0) hx hb dX0_sunkOn_38 (by decide) ?_
    exact JK1 0 ls (lv_sub hl [0, 1] rfl) hf
  refine lv_if_lt (tgt := 38) hx hb dX0_sunkOn_1 (by decide) (fun c6 => ?_) (fun c6 => ?_)
  · have hf := it hf c6
    exact JK5  ls (lv_sub hl [0, 2] rfl) hf
  · have hf := ie hf c6
    refine lv_iload_n hx hb dX0_sunkOn_4 rfl (lv_at hl 1 rfl) ?_
    refine lv_aload_n hx hb dX0_sunkOn_5 rfl (lv_at hl 0 rfl) ?_
    refine va_get (D := D) (ci := 0) (v := .ref hs) (C := RX0) (T := TX0) (N := 9) hx hb hts inX0_sunkOn_X0 hown hK hP 2 rfl rfl 0 (by decide) (hts (.fieldLink RX0 9 "BondDesk$Bond" "schedule" "LBondDesk$Schedule;") (by decide +kernel)) (fun _ h9 => h9) rfl dX0_sunkOn_6 ?_
    refine va_get (D := D) (ci := 2) (v := .ref hd) (C := RX3) (T := TX3) (N := 9) hx hb hts inX0_sunkOn_X3 hown hK hP 1 rfl rfl 6 (by decide) (hts (.fieldLink RX0 66 "BondDesk$Schedule" "dates" "[I") (by decide +kernel)) (fun _ h9 => h9) rfl dX0_sunkOn_9 ?_
    refine va_alen (v := nI n) hx hb hK hP 0 0 rfl rfl rfl dX0_sunkOn_12 ?_
    refine lv_iconst (v := 1) hx hb dX0_sunkOn_13 (by decide) ?_
    refine lv_isub hx hb dX0_sunkOn_14 ?_
    refine lv_icmp_ge (tgt := 38) hx hb dX0_sunkOn_15 (by decide) (fun c7 => ?_) (fun c7 => ?_)
    · have hf := it hf c7
      exact JK5  ls (lv_sub hl [0, 2] rfl) hf
    · have hf := ie hf c7
      refine lv_aload_n hx hb dX0_sunkOn_18 rfl (lv_at hl 0 rfl) ?_
      refine va_get (D := D) (ci := 0) (v := .ref hs) (C := RX0) (T := TX0) (N := 9) hx hb hts inX0_sunkOn_X0 hown hK hP 2 rfl rfl 0 (by decide) (hts (.fieldLink RX0 9 "BondDesk$Bond" "schedule" "LBondDesk$Schedule;") (by decide +kernel)) (fun _ h9 => h9) rfl dX0_sunkOn_19 ?_
      refine va_get (D := D) (ci := 2) (v := .ref hd) (C := RX3) (T := TX3) (N := 9) hx hb hts inX0_sunkOn_X3 hown hK hP 1 rfl rfl 6 (by decide) (hts (.fieldLink RX0 66 "BondDesk$Schedule" "dates" "[I") (by decide +kernel)) (fun _ h9 => h9) rfl dX0_sunkOn_22 ?_
      refine lv_iload_n hx hb dX0_sunkOn_25 rfl (lv_at hl 1 rfl) ?_
      obtain ⟨c8, hf⟩ := gd_s hf
      refine va_iald hx hb hK hP 0 0 rfl rfl c8 dX0_sunkOn_26 ?_
      refine lv_aload_n hx hb dX0_sunkOn_27 rfl (lv_at hl 0 rfl) ?_
      refine va_get (D := D) (ci := 0) (v := .int (B 5)) (C := RX0) (T := TX0) (N := 9) hx hb hts inX0_sunkOn_X0 hown hK hP 2 rfl rfl 5 (by decide) (hts (.fieldLink RX0 70 "BondDesk$Bond" "sinkFrom" "I") (by decide +kernel)) (fun _ h9 => h9) rfl dX0_sunkOn_28 ?_
      refine lv_icmp_lt (tgt := 38) hx hb dX0_sunkOn_31 (by decide) (fun c9 => ?_) (fun c9 => ?_)
      · have hf := it hf c9
        exact JK5  ls (lv_sub hl [0, 2] rfl) hf
      · have hf := ie hf c9
        refine lv_iconst (v := 1) hx hb dX0_sunkOn_34 (by decide) ?_
        refine lv_goto (tgt := 39) hx hb dX0_sunkOn_35 (by decide) ?_
        exact JK1 1 ls (lv_sub hl [0, 2] rfl) hf
theorem inX0_paymentOn_X0 : ∀ w ∈ wsX00, w ∈ wsX0_paymentOn := by decide +kernel
set_option maxHeartbeats 4000000 in
set_option maxRecDepth 100000 in
theorem m_X0_paymentOn (l : Launch) (D : va_G) (cI cJ cO : ClassId) (ah : Nat) (ht : Nat) (hs : Nat) (hd : Nat) (B : Nat → Int32) (S : Nat → Int32) (T : Nat → Int64) (n : Nat) (ds : Nat → Int32) (a0 : Int32) (a1 : Int32) (r : Int64) (hf : f_X0_paymentOn B S T n ds a0 a1 = some r) : Met l yX0_paymentOn wsX0_paymentOn ({ frames := 2, cells := 0, slots := 0, locals := 36 }) (va_Pc [.ref ht, .int a0, .int a1] (pw D (ty3 cI cJ cO) (some ah) [eD cI hd n ds, eS hs hd S T, eB ht hs B])) (QSl r) 0 0 (fun _ => False) := by
  refine Met.ofW (cc := cX0_paymentOn) (maxL := 3) (ret := (some .long)) (by decide) rfl ?_
  intro p e s m args below meth c s₁ Bd hml hv
  obtain ⟨rfl, hZ, hP, hK⟩ := hv
  have hx := Bd.exec
  have hb := Bd.bytes
  have hr := Bd.returns
  have hts := atoms_spec (ws := wsX0_paymentOn) Bd.pre
  have hown : s.vm.findClass RX0 = some m.cls := findClass_of_methodNamed Bd.named
  have hlocks := Bd.notSynchronized
  have hl := lv_entry ([.ref ht, .int a0, .int a1]) (n := 3) (Nat.le_of_ble_eq_true rfl)
  rw [lg_entry_eq]
  generalize (lg_sl ([.ref ht, .int a0, .int a1]) ++ List.replicate (3 - (lg_sl ([.ref ht, .int a0, .int a1])).length) Slot.unset).toArray = ls at hl ⊢
  have hl : lv_has ls 3 [(0, .ref ht), (1, .int a0), (2, .int a1)] := hl
  unfold f_X0_paymentOn at hf
  refine lv_aload_n hx hb dX0_paymentOn_0 rfl (lv_at hl 0 rfl) ?_
  refine va_get (D := D) (ci := 0) (v := .ref hs) (C := RX0) (T := TX0) (N := 9) hx hb hts inX0_paymentOn_X0 hown hK hP 2 rfl rfl 0 (by decide) (hts (.fieldLink RX0 9 "BondDesk$Bond" "schedule" "LBondDesk$Schedule;") (by decide +kernel)) (fun _ h9 => h9) rfl dX0_paymentOn_1 ?_
  refine lv_iload_n hx hb dX0_paymentOn_4 rfl (lv_at hl 1 rfl) ?_
  refine lv_iload_n hx hb dX0_paymentOn_5 rfl (lv_at hl 2 rfl) ?_
  obtain ⟨v1, hv1, hf⟩ := ob hf
  refine cSl (W.runS (As := [.int a1]) (rest := [.int a0, .ref hs]) ⟨hx, hb, hml, hown, hts⟩ (m_X0_faceOf l D cI cJ cO ah a1 v1 hv1) (va_cwS 1 hts gX0_paymentOn_X0_faceOf rfl rfl rfl (by decide +kernel) ⟨(Nat.le_of_ble_eq_true rfl), (Nat.le_of_ble_eq_true rfl)⟩) ⟨pw_blind, fun U hU hW => ⟨rfl, pw_at hZ va_S.rf hP hK hU hW (Or.inr rfl) [] rfl⟩⟩ rfl rfl hl.1 rfl (lv_room (Nat.le_of_ble_eq_true rfl)) dX0_paymentOn_6 ⟨(Nat.le_of_ble_eq_true rfl), (Nat.le_of_ble_eq_true rfl)⟩) ?_
  obtain ⟨v2, hv2, hf⟩ := ob hf
  refine cSl (W.runV (As := [.int a0, .long v1]) (rest := []) ⟨hx, hb, hml, hown, hts⟩ (m_X3_couponFor l D cI cJ cO ah hs hd S T n ds a0 v1 v2 hv2) (cwV 2 hts gX0_paymentOn_X3_couponFor rfl rfl rfl (by decide +kernel) ⟨(Nat.le_of_ble_eq_true rfl), (Nat.le_of_ble_eq_true rfl)⟩) ⟨pw_blind, va_recv hK hP (ci := 2) (q0 := 1) rfl rfl, fun U hU hW => ⟨rfl, pw_at hZ va_S.rf hP hK hU hW (Or.inr rfl) [0, 1] rfl⟩⟩ rfl rfl hl.1 rfl (lv_room (Nat.le_of_ble_eq_true rfl)) dX0_paymentOn_9 ⟨(Nat.le_of_ble_eq_true rfl), (Nat.le_of_ble_eq_true rfl)⟩) ?_
  refine lv_aload_n hx hb dX0_paymentOn_12 rfl (lv_at hl 0 rfl) ?_
  refine lv_iload_n hx hb dX0_paymentOn_13 rfl (lv_at hl 1 rfl) ?_
  obtain ⟨v3, hv3, hf⟩ := ob hf
  refine cSz (W.runV (As := [.int a0]) (rest := [.long v2]) ⟨hx, hb, hml, hown, hts⟩ (m_X0_isEnd l D cI cJ cO ah ht hs hd B S T n ds a0 v3 hv3) (cwV 1 hts gX0_paymentOn_X0_isEnd rfl rfl rfl (by decide +kernel) ⟨(Nat.le_of_ble_eq_true rfl), (Nat.le_of_ble_eq_true rfl)⟩) ⟨pw_blind, va_recv hK hP (ci := 0) (q0 := 2) rfl rfl, fun U hU hW => ⟨rfl, pw_at hZ va_S.rf hP hK hU hW (Or.inr rfl) [0, 1, 2] rfl⟩⟩ rfl rfl hl.1 rfl (lv_room (Nat.le_of_ble_eq_true rfl)) dX0_paymentOn_14 ⟨(Nat.le_of_ble_eq_true rfl), (Nat.le_of_ble_eq_true rfl)⟩) (fun zv3 => ?_)
  refine lv_if_eq (tgt := 24) hx hb dX0_paymentOn_17 (by decide) (fun c4 => ?_) (fun c4 => ?_)
  · have hf := it hf c4
    refine lv_aload_n hx hb dX0_paymentOn_24 rfl (lv_at hl 0 rfl) ?_
    refine lv_iload_n hx hb dX0_paymentOn_25 rfl (lv_at hl 1 rfl) ?_
    refine lv_iload_n hx hb dX0_paymentOn_26 rfl (lv_at hl 2 rfl) ?_
    obtain ⟨v5, hv5, hf⟩ := ob hf
    refine cSi (W.runV (As := [.int a0, .int a1]) (rest := [.long v2]) ⟨hx, hb, hml, hown, hts⟩ (m_X0_sunkOn l D cI cJ cO ah ht hs hd B S T n ds a0 a1 v5 hv5) (cwV 2 hts gX0_paymentOn_X0_sunkOn rfl rfl rfl (by decide +kernel) ⟨(Nat.le_of_ble_eq_true rfl), (Nat.le_of_ble_eq_true rfl)⟩) ⟨pw_blind, va_recv hK hP (ci := 0) (q0 := 2) rfl rfl, fun U hU hW => ⟨rfl, pw_at hZ va_S.rf hP hK hU hW (Or.inr rfl) [0, 1, 2] rfl⟩⟩ rfl rfl hl.1 rfl (lv_room (Nat.le_of_ble_eq_true rfl)) dX0_paymentOn_27 ⟨(Nat.le_of_ble_eq_true rfl), (Nat.le_of_ble_eq_true rfl)⟩) ?_
    obtain ⟨v6, hv6, hf⟩ := ob hf
    refine cSl (W.runS (As := [.int v5]) (rest := [.long v2]) ⟨hx, hb, hml, hown, hts⟩ (m_X0_faceOf l D cI cJ cO ah v5 v6 hv6) (va_cwS 1 hts gX0_paymentOn_X0_faceOf rfl rfl rfl (by decide +kernel) ⟨(Nat.le_of_ble_eq_true rfl), (Nat.le_of_ble_eq_true rfl)⟩) ⟨pw_blind, fun U hU hW => ⟨rfl, pw_at hZ va_S.rf hP hK hU hW (Or.inr rfl) [] rfl⟩⟩ rfl rfl hl.1 rfl (lv_room (Nat.le_of_ble_eq_true rfl)) dX0_paymentOn_30 ⟨(Nat.le_of_ble_eq_true rfl), (Nat.le_of_ble_eq_true rfl)⟩) ?_
    refine lv_ladd hx hb dX0_paymentOn_33 ?_
    exact W.lret hx hb hr (fun t ht _ => ⟨_, rfl, Option.some.inj hf, ht⟩) (fun q hq => absurd hq List.not_mem_nil) dX0_paymentOn_34
  · have hf := ie hf c4
    refine lv_iload_n hx hb dX0_paymentOn_20 rfl (lv_at hl 2 rfl) ?_
    refine lv_goto (tgt := 30) hx hb dX0_paymentOn_21 (by decide) ?_
    obtain ⟨v7, hv7, hf⟩ := ob hf
    refine cSl (W.runS (As := [.int a1]) (rest := [.long v2]) ⟨hx, hb, hml, hown, hts⟩ (m_X0_faceOf l D cI cJ cO ah a1 v7 hv7) (va_cwS 1 hts gX0_paymentOn_X0_faceOf rfl rfl rfl (by decide +kernel) ⟨(Nat.le_of_ble_eq_true rfl), (Nat.le_of_ble_eq_true rfl)⟩) ⟨pw_blind, fun U hU hW => ⟨rfl, pw_at hZ va_S.rf hP hK hU hW (Or.inr rfl) [] rfl⟩⟩ rfl rfl hl.1 rfl (lv_room (Nat.le_of_ble_eq_true rfl)) dX0_paymentOn_30 ⟨(Nat.le_of_ble_eq_true rfl), (Nat.le_of_ble_eq_true rfl)⟩) ?_
    refine lv_ladd hx hb dX0_paymentOn_33 ?_
    exact W.lret hx hb hr (fun t ht _ => ⟨_, rfl, Option.some.inj hf, ht⟩) (fun q hq => absurd hq List.not_mem_nil) dX0_paymentOn_34
theorem inX0_factorBehind_X0 : ∀ w ∈ wsX00, w ∈ wsX0_factorBehind := by decide +kernel
set_option maxHeartbeats 4000000 in
set_option maxRecDepth 100000 in
theorem m_X0_factorBehind (l : Launch) (D : va_G) (cI cJ cO : ClassId) (ah : Nat) (ht : Nat) (hs : Nat) (hd : Nat) (B : Nat → Int32) (S : Nat → Int32) (T : Nat → Int64) (n : Nat) (ds : Nat → Int32) (a0 : Int32) (N : Nat) (r : Int32) (hf : f_X0_factorBehind N B n ds a0 = some r) : Met l yX0_factorBehind wsX0_factorBehind ({ frames := 2, cells := 0, slots := 0, locals := 36 }) (va_Pc [.ref ht, .int a0] (pw D (ty3 cI cJ cO) (some ah) [eD cI hd n ds, eS hs hd S T, eB ht hs B])) (QSi r) 0 0 (fun _ => False) := by
  refine Met.ofW (cc := cX0_factorBehind) (maxL := 4) (ret := (some .int)) (by decide) rfl ?_
  intro p e s m args below meth c s₁ Bd hml hv
  obtain ⟨rfl, hZ, hP, hK⟩ := hv
  have hx := Bd.exec
  have hb := Bd.bytes
  have hr := Bd.returns
  have hts := atoms_spec (ws := wsX0_factorBehind) Bd.pre
  have hown : s.vm.findClass RX0 = some m.cls := findClass_of_methodNamed Bd.named
  have hlocks := Bd.notSynchronized
  have hl := lv_entry ([.ref ht, .int a0]) (n := 4) (Nat.le_of_ble_eq_true rfl)
  rw [lg_entry_eq]
  generalize (lg_sl ([.ref ht, .int a0]) ++ List.replicate (4 - (lg_sl ([.ref ht, .int a0])).length) Slot.unset).toArray = ls at hl ⊢
  have hl : lv_has ls 4 [(0, .ref ht), (1, .int a0)] := hl
  unfold f_X0_factorBehind at hf
  refine lv_aload_n hx hb dX0_factorBehind_0 rfl (lv_at hl 0 rfl) ?_
  refine va_get (D := D) (ci := 0) (v := .int (B 1)) (C := RX0) (T := TX0) (N := 9) hx hb hts inX0_factorBehind_X0 hown hK hP 2 rfl rfl 1 (by decide) (hts (.fieldLink RX0 15 "BondDesk$Bond" "factor" "I") (by decide +kernel)) (fun _ h9 => h9) rfl dX0_factorBehind_1 ?_
  refine lv_topi (fun x1 ex1 => ?_)
  have hf := bd_s hf ex1
  refine lv_istore_n (lv' := [(2, .int x1), (0, .ref ht), (1, .int a0)]) hx hb dX0_factorBehind_4 rfl hl (by decide) rfl (fun ls hl => ?_)
  refine lv_aload_n hx hb dX0_factorBehind_5 rfl (lv_at hl 1 rfl) ?_
  refine va_get (D := D) (ci := 0) (v := .int (B 3)) (C := RX0) (T := TX0) (N := 9) hx hb hts inX0_factorBehind_X0 hown hK hP 2 rfl rfl 3 (by decide) (hts (.fieldLink RX0 25 "BondDesk$Bond" "next" "I") (by decide +kernel)) (fun _ h9 => h9) rfl dX0_factorBehind_6 ?_
  refine lv_topi (fun x2 ex2 => ?_)
  have hf := bd_s hf ex2
  refine lv_istore_n (lv' := [(3, .int x2), (2, .int x1), (0, .ref ht), (1, .int a0)]) hx hb dX0_factorBehind_9 rfl hl (by decide) rfl (fun ls hl => ?_)
  have LP10 : ∀ (n5 : Nat) (x3 : Int32) (x4 : Int32) (ls : Array Slot), lv_has ls 4 [(0, .ref ht), (1, .int a0), (2, .int x3), (3, .int x4)] → f_X0_factorBehind_L10 a0 B n ds n5 x3 x4 = some r → W p l e (headSpec wsX0_factorBehind ({ frames := 2, cells := 0, slots := 0, locals := 36 })).room s m ([.ref ht, .int a0] : List Value).toArray below meth c s.heap [] 0 0 (MQ below (QSi r) ([.ref ht, .int a0] : List Value).toArray s 0 0 (fun _ => False)) (F0 m 10 ls []) := by
    intro n5
    induction n5 with
    | zero => intro x3 x4 ls hl hf; exact (no_s hf).elim
    | succ n5 ih5 =>
      intro x3 x4 ls hl hf
      rw [f_X0_factorBehind_L10] at hf
      refine lv_iload_n hx hb dX0_factorBehind_10 rfl (lv_at hl 3 rfl) ?_
      refine lv_iload_n hx hb dX0_factorBehind_11 rfl (lv_at hl 1 rfl) ?_
      refine lv_icmp_gt (tgt := 30) hx hb dX0_factorBehind_12 (by decide) (fun c6 => ?_) (fun c6 => ?_)
      · have hf := it hf c6
        refine lv_iload_n hx hb dX0_factorBehind_30 rfl (lv_at hl 2 rfl) ?_
        exact W.iret hx hb hr (fun t ht _ => ⟨_, rfl, Option.some.inj hf, ht⟩) (fun q hq => absurd hq List.not_mem_nil) dX0_factorBehind_31
      · have hf := ie hf c6
        refine lv_iload_n hx hb dX0_factorBehind_15 rfl (lv_at hl 2 rfl) ?_
        refine lv_aload_n hx hb dX0_factorBehind_16 rfl (lv_at hl 0 rfl) ?_
        refine lv_iload_n hx hb dX0_factorBehind_17 rfl (lv_at hl 3 rfl) ?_
        refine lv_iload_n hx hb dX0_factorBehind_18 rfl (lv_at hl 2 rfl) ?_
        obtain ⟨v7, hv7, hf⟩ := ob hf
        refine cSi (W.runV (As := [.int x4, .int x3]) (rest := [.int x3]) ⟨hx, hb, hml, hown, hts⟩ (m_X0_sunkOn l D cI cJ cO ah ht hs hd B S T n ds x4 x3 v7 hv7) (cwV 2 hts gX0_factorBehind_X0_sunkOn rfl rfl rfl (by decide +kernel) ⟨(Nat.le_of_ble_eq_true rfl), (Nat.le_of_ble_eq_true rfl)⟩) ⟨pw_blind, va_recv hK hP (ci := 0) (q0 := 2) rfl rfl, fun U hU hW => ⟨rfl, pw_at hZ va_S.rf hP hK hU hW (Or.inr rfl) [0, 1, 2] rfl⟩⟩ rfl rfl hl.1 rfl (lv_room (Nat.le_of_ble_eq_true rfl)) dX0_factorBehind_19 ⟨(Nat.le_of_ble_eq_true rfl), (Nat.le_of_ble_eq_true rfl)⟩) ?_
        refine lv_isub hx hb dX0_factorBehind_22 ?_
        refine lv_topi (fun x8 ex8 => ?_)
        have hf := bd_s hf ex8
        refine lv_istore_n (lv' := [(2, .int x8), (0, .ref ht), (1, .int a0), (3, .int x4)]) hx hb dX0_factorBehind_23 rfl hl (by decide) rfl (fun ls hl => ?_)
        obtain ⟨x9, ex9⟩ : ∃ y : Int32, y = x4 + 1 := ⟨_, rfl⟩
        have hf := bd_s hf ex9
        refine lv_iinc (v := x9) (lv' := [(3, .int x9), (2, .int x8), (0, .ref ht), (1, .int a0)]) hx hb dX0_factorBehind_24 hl (k := 3) rfl (by rw [ex9]; rfl) (by decide) rfl (fun ls hl => ?_)
        refine lv_goto (tgt := 10) hx hb dX0_factorBehind_27 (by decide) ?_
        exact ih5 x8 x9 ls (lv_sub hl [2, 3, 1, 0] rfl) hf
  exact LP10 N x1 x2 ls (lv_sub hl [2, 3, 1, 0] rfl) hf
theorem inX0_worthAt_X0 : ∀ w ∈ wsX00, w ∈ wsX0_worthAt := by decide +kernel
theorem inX0_worthAt_X3 : ∀ w ∈ wsX30, w ∈ wsX0_worthAt := by decide +kernel
set_option maxHeartbeats 4000000 in
set_option maxRecDepth 100000 in
theorem m_X0_worthAt (l : Launch) (D : va_G) (cI cJ cO : ClassId) (ah : Nat) (ht : Nat) (hs : Nat) (hd : Nat) (B : Nat → Int32) (S : Nat → Int32) (T : Nat → Int64) (n : Nat) (ds : Nat → Int32) (a0 : Int32) (a1 : Int32) (a2 : Int32) (N : Nat) (r : Int64) (hf : f_X0_worthAt N B S T n ds a0 a1 a2 = some r) : Met l yX0_worthAt wsX0_worthAt ({ frames := 3, cells := 0, slots := 0, locals := 58 }) (va_Pc [.ref ht, .int a0, .int a1, .int a2] (pw D (ty3 cI cJ cO) (some ah) [eD cI hd n ds, eS hs hd S T, eB ht hs B])) (QSl r) 0 0 (fun _ => False) := by
  refine Met.ofW (cc := cX0_worthAt) (maxL := 14) (ret := (some .long)) (by decide) rfl ?_
  intro p e s m args below meth c s₁ Bd hml hv
  obtain ⟨rfl, hZ, hP, hK⟩ := hv
  have hx := Bd.exec
  have hb := Bd.bytes
  have hr := Bd.returns
  have hts := atoms_spec (ws := wsX0_worthAt) Bd.pre
  have hown : s.vm.findClass RX0 = some m.cls := findClass_of_methodNamed Bd.named
  have hlocks := Bd.notSynchronized
  have hl := lv_entry ([.ref ht, .int a0, .int a1, .int a2]) (n := 14) (Nat.le_of_ble_eq_true rfl)
  rw [lg_entry_eq]
  generalize (lg_sl ([.ref ht, .int a0, .int a1, .int a2]) ++ List.replicate (14 - (lg_sl ([.ref ht, .int a0, .int a1, .int a2])).length) Slot.unset).toArray = ls at hl ⊢
  have hl : lv_has ls 14 [(0, .ref ht), (1, .int a0), (2, .int a1), (3, .int a2)] := hl
  unfold f_X0_worthAt at hf
  refine lv_aload_n hx hb dX0_worthAt_0 rfl (lv_at hl 0 rfl) ?_
  refine va_get (D := D) (ci := 0) (v := .ref hs) (C := RX0) (T := TX0) (N := 9) hx hb hts inX0_worthAt_X0 hown hK hP 2 rfl rfl 0 (by decide) (hts (.fieldLink RX0 9 "BondDesk$Bond" "schedule" "LBondDesk$Schedule;") (by decide +kernel)) (fun _ h9 => h9) rfl dX0_worthAt_1 ?_
  refine lv_iload_n hx hb dX0_worthAt_4 rfl (lv_at hl 1 rfl) ?_
  obtain ⟨v1, hv1, hf⟩ := ob hf
  refine cSi (W.runV (As := [.int a0]) (rest := []) ⟨hx, hb, hml, hown, hts⟩ (m_X3_firstBehind l D cI cJ cO ah hs hd S T n ds a0 N v1 hv1) (cwV 1 hts gX0_worthAt_X3_firstBehind rfl rfl rfl (by decide +kernel) ⟨(Nat.le_of_ble_eq_true rfl), (Nat.le_of_ble_eq_true rfl)⟩) ⟨pw_blind, va_recv hK hP (ci := 2) (q0 := 1) rfl rfl, fun U hU hW => ⟨rfl, pw_at hZ va_S.rf hP hK hU hW (Or.inr rfl) [0, 1] rfl⟩⟩ rfl rfl hl.1 rfl (lv_room (Nat.le_of_ble_eq_true rfl)) dX0_worthAt_5 ⟨(Nat.le_of_ble_eq_true rfl), (Nat.le_of_ble_eq_true rfl)⟩) ?_
  refine lv_istore (lv' := [(4, .int v1), (0, .ref ht), (1, .int a0), (2, .int a1), (3, .int a2)]) hx hb dX0_worthAt_8 hl (by decide) rfl (fun ls hl => ?_)
  refine lv_ldc2 hx hb hown (hts (.constantLong RX0 52 (10000)) (by decide +kernel)) dX0_worthAt_10 ?_
  refine lv_aload_n hx hb dX0_worthAt_13 rfl (lv_at hl 1 rfl) ?_
  refine va_get (D := D) (ci := 0) (v := .ref hs) (C := RX0) (T := TX0) (N := 9) hx hb hts inX0_worthAt_X0 hown hK hP 2 rfl rfl 0 (by decide) (hts (.fieldLink RX0 9 "BondDesk$Bond" "schedule" "LBondDesk$Schedule;") (by decide +kernel)) (fun _ h9 => h9) rfl dX0_worthAt_14 ?_
  refine va_get (D := D) (ci := 2) (v := .int (S 3)) (C := RX3) (T := TX3) (N := 9) hx hb hts inX0_worthAt_X3 hown hK hP 1 rfl rfl 3 (by decide) (hts (.fieldLink RX0 91 "BondDesk$Schedule" "perYear" "I") (by decide +kernel)) (fun _ h9 => h9) rfl dX0_worthAt_17 ?_
  refine lv_i2l hx hb dX0_worthAt_20 rfl ?_
  refine lv_lmul hx hb dX0_worthAt_21 ?_
  refine lv_topl (fun x2 ex2 => ?_)
  have hf := bd_s hf ex2
  refine lv_lstore (lv' := [(5, .long x2), (4, .int v1), (0, .ref ht), (1, .int a0), (2, .int a1), (3, .int a2)]) hx hb dX0_worthAt_22 hl (by decide) rfl (fun ls hl => ?_)
  refine lv_aload_n hx hb dX0_worthAt_24 rfl (lv_at hl 2 rfl) ?_
  obtain ⟨v3, hv3, hf⟩ := ob hf
  refine cSz (W.runV (As := []) (rest := []) ⟨hx, hb, hml, hown, hts⟩ (m_X0_isGone l D cI cJ cO ah ht hs hd B S T n ds v3 hv3) (cwV 0 hts gX0_worthAt_X0_isGone rfl rfl rfl (by decide +kernel) ⟨(Nat.le_of_ble_eq_true rfl), (Nat.le_of_ble_eq_true rfl)⟩) ⟨pw_blind, va_recv hK hP (ci := 0) (q0 := 2) rfl rfl, fun U hU hW => ⟨rfl, pw_at hZ va_S.rf hP hK hU hW (Or.inr rfl) [0, 1, 2] rfl⟩⟩ rfl rfl hl.1 rfl (lv_room (Nat.le_of_ble_eq_true rfl)) dX0_worthAt_25 ⟨(Nat.le_of_ble_eq_true rfl), (Nat.le_of_ble_eq_true rfl)⟩) (fun zv3 => ?_)
  refine lv_if_ne (tgt := 55) hx hb dX0_worthAt_28 (by decide) (fun c4 => ?_) (fun c4 => ?_)
  · have hf := ie hf c4
    refine lv_lconst (v := 0) hx hb dX0_worthAt_55 (by decide) ?_
    exact W.lret hx hb hr (fun t ht _ => ⟨_, rfl, Option.some.inj hf, ht⟩) (fun q hq => absurd hq List.not_mem_nil) dX0_worthAt_56
  · have hf := it hf c4
    refine lv_iload hx hb dX0_worthAt_31 (lv_at hl 1 rfl) ?_
    refine lv_aload_n hx hb dX0_worthAt_33 rfl (lv_at hl 2 rfl) ?_
    refine va_get (D := D) (ci := 0) (v := .ref hs) (C := RX0) (T := TX0) (N := 9) hx hb hts inX0_worthAt_X0 hown hK hP 2 rfl rfl 0 (by decide) (hts (.fieldLink RX0 9 "BondDesk$Bond" "schedule" "LBondDesk$Schedule;") (by decide +kernel)) (fun _ h9 => h9) rfl dX0_worthAt_34 ?_
    refine va_get (D := D) (ci := 2) (v := .ref hd) (C := RX3) (T := TX3) (N := 9) hx hb hts inX0_worthAt_X3 hown hK hP 1 rfl rfl 6 (by decide) (hts (.fieldLink RX0 66 "BondDesk$Schedule" "dates" "[I") (by decide +kernel)) (fun _ h9 => h9) rfl dX0_worthAt_37 ?_
    refine va_alen (v := nI n) hx hb hK hP 0 0 rfl rfl rfl dX0_worthAt_40 ?_
    refine lv_icmp_ge (tgt := 55) hx hb dX0_worthAt_41 (by decide) (fun c5 => ?_) (fun c5 => ?_)
    · have hf := it hf c5
      refine lv_lconst (v := 0) hx hb dX0_worthAt_55 (by decide) ?_
      exact W.lret hx hb hr (fun t ht _ => ⟨_, rfl, Option.some.inj hf, ht⟩) (fun q hq => absurd hq List.not_mem_nil) dX0_worthAt_56
    · have hf := ie hf c5
      refine lv_lload hx hb dX0_worthAt_44 (lv_at hl 0 rfl) ?_
      refine lv_lconst (v := 0) hx hb dX0_worthAt_46 (by decide) ?_
      refine W.lcmp hx hb dX0_worthAt_47 ?_
      refine lv_if_le (tgt := 55) hx hb dX0_worthAt_48 (by decide) (fun c6 => ?_) (fun c6 => ?_)
      · have hf := it hf c6
        refine lv_lconst (v := 0) hx hb dX0_worthAt_55 (by decide) ?_
        exact W.lret hx hb hr (fun t ht _ => ⟨_, rfl, Option.some.inj hf, ht⟩) (fun q hq => absurd hq List.not_mem_nil) dX0_worthAt_56
      · have hf := ie hf c6
        refine lv_iload_n hx hb dX0_worthAt_51 rfl (lv_at hl 5 rfl) ?_
        refine lv_if_ge (tgt := 57) hx hb dX0_worthAt_52 (by decide) (fun c7 => ?_) (fun c7 => ?_)
        · have hf := it hf c7
          refine lv_ldc2 hx hb hown (hts (.constantLong RX0 94 (3650000)) (by decide +kernel)) dX0_worthAt_57 ?_
          refine lv_iload_n hx hb dX0_worthAt_60 rfl (lv_at hl 5 rfl) ?_
          refine lv_i2l hx hb dX0_worthAt_61 rfl ?_
          refine lv_iload_n hx hb dX0_worthAt_62 rfl (lv_at hl 3 rfl) ?_
          refine lv_aload_n hx hb dX0_worthAt_63 rfl (lv_at hl 2 rfl) ?_
          refine va_get (D := D) (ci := 0) (v := .ref hs) (C := RX0) (T := TX0) (N := 9) hx hb hts inX0_worthAt_X0 hown hK hP 2 rfl rfl 0 (by decide) (hts (.fieldLink RX0 9 "BondDesk$Bond" "schedule" "LBondDesk$Schedule;") (by decide +kernel)) (fun _ h9 => h9) rfl dX0_worthAt_64 ?_
          refine va_get (D := D) (ci := 2) (v := .ref hd) (C := RX3) (T := TX3) (N := 9) hx hb hts inX0_worthAt_X3 hown hK hP 1 rfl rfl 6 (by decide) (hts (.fieldLink RX0 66 "BondDesk$Schedule" "dates" "[I") (by decide +kernel)) (fun _ h9 => h9) rfl dX0_worthAt_67 ?_
          refine lv_iload hx hb dX0_worthAt_70 (lv_at hl 1 rfl) ?_
          obtain ⟨c8, hf⟩ := gd_s hf
          refine va_iald hx hb hK hP 0 0 rfl rfl c8 dX0_worthAt_72 ?_
          obtain ⟨v9, hv9, hf⟩ := ob hf
          refine cSi (W.runS (As := [.int a0, .int (ds v1.toNatClampNeg)]) (rest := [.long a2.toInt64, .long 3650000]) ⟨hx, hb, hml, hown, hts⟩ (m_X1_daysBetween l D cI cJ cO ah a0 (ds v1.toNatClampNeg) v9 hv9) (va_cwS 2 hts gX0_worthAt_X1_daysBetween rfl rfl rfl (by decide +kernel) ⟨(Nat.le_of_ble_eq_true rfl), (Nat.le_of_ble_eq_true rfl)⟩) ⟨pw_blind, fun U hU hW => ⟨rfl, pw_at hZ va_S.rf hP hK hU hW (Or.inr rfl) [] rfl⟩⟩ rfl rfl hl.1 rfl (lv_room (Nat.le_of_ble_eq_true rfl)) dX0_worthAt_73 ⟨(Nat.le_of_ble_eq_true rfl), (Nat.le_of_ble_eq_true rfl)⟩) ?_
          refine lv_i2l hx hb dX0_worthAt_76 rfl ?_
          refine lv_lmul hx hb dX0_worthAt_77 ?_
          refine lv_ladd hx hb dX0_worthAt_78 ?_
          refine lv_topl (fun x10 ex10 => ?_)
          have hf := bd_s hf ex10
          refine lv_lstore (lv' := [(7, .long x10), (5, .long x2), (4, .int v1), (0, .ref ht), (1, .int a0), (2, .int a1), (3, .int a2)]) hx hb dX0_worthAt_79 hl (by decide) rfl (fun ls hl => ?_)
          refine lv_lload hx hb dX0_worthAt_81 (lv_at hl 0 rfl) ?_
          refine lv_lconst (v := 0) hx hb dX0_worthAt_83 (by decide) ?_
          refine W.lcmp hx hb dX0_worthAt_84 ?_
          obtain ⟨K11, hK11, hf⟩ := jn_s hf
          have JK11 : ∀ (x12 : Int64) (ls : Array Slot), lv_has ls 14 [(0, .ref ht), (2, .int a1), (3, .int a2), (4, .int v1), (5, .long x2)] → K11 x12 = some r → W p l e (headSpec wsX0_worthAt ({ frames := 3, cells := 0, slots := 0, locals := 58 })).room s m ([.ref ht, .int a0, .int a1, .int a2] : List Value).toArray below meth c s.heap [] 0 0 (MQ below (QSl r) ([.ref ht, .int a0, .int a1, .int a2] : List Value).toArray s 0 0 (fun _ => False)) (F0 m 98 ls [.long x12]) := by
            intro x12 ls hl hf
            rw [hK11] at hf
            refine lv_lstore (lv' := [(9, .long x12), (0, .ref ht), (2, .int a1), (3, .int a2), (4, .int v1), (5, .long x2)]) hx hb dX0_worthAt_98 hl (by decide) rfl (fun ls hl => ?_)
            refine lv_lconst (v := 0) hx hb dX0_worthAt_100 (by decide) ?_
            refine lv_lstore (lv' := [(11, .long 0), (9, .long x12), (0, .ref ht), (2, .int a1), (3, .int a2), (4, .int v1), (5, .long x2)]) hx hb dX0_worthAt_101 hl (by decide) rfl (fun ls hl => ?_)
            refine lv_iload hx hb dX0_worthAt_103 (lv_at hl 5 rfl) ?_
            refine lv_istore (lv' := [(13, .int v1), (11, .long 0), (9, .long x12), (0, .ref ht), (2, .int a1), (3, .int a2), (4, .int v1), (5, .long x2)]) hx hb dX0_worthAt_105 hl (by decide) rfl (fun ls hl => ?_)
            have LP107 : ∀ (n17 : Nat) (x13 : Int32) (x14 : Int64) (x15 : Int64) (x16 : Int32) (ls : Array Slot), lv_has ls 14 [(0, .ref ht), (2, .int x13), (3, .int a2), (5, .long x2), (9, .long x14), (11, .long x15), (13, .int x16)] → f_X0_worthAt_L107 n B S T ds x2 a2 n17 x13 x14 x15 x16 = some r → W p l e (headSpec wsX0_worthAt ({ frames := 3, cells := 0, slots := 0, locals := 58 })).room s m ([.ref ht, .int a0, .int a1, .int a2] : List Value).toArray below meth c s.heap [] 0 0 (MQ below (QSl r) ([.ref ht, .int a0, .int a1, .int a2] : List Value).toArray s 0 0 (fun _ => False)) (F0 m 107 ls []) := by
              intro n17
              induction n17 with
              | zero => intro x13 x14 x15 x16 ls hl hf; exact (no_s hf).elim
              | succ n17 ih17 =>
                intro x13 x14 x15 x16 ls hl hf
                rw [f_X0_worthAt_L107] at hf
                refine lv_iload hx hb dX0_worthAt_107 (lv_at hl 6 rfl) ?_
                refine lv_aload_n hx hb dX0_worthAt_109 rfl (lv_at hl 0 rfl) ?_
                refine va_get (D := D) (ci := 0) (v := .ref hs) (C := RX0) (T := TX0) (N := 9) hx hb hts inX0_worthAt_X0 hown hK hP 2 rfl rfl 0 (by decide) (hts (.fieldLink RX0 9 "BondDesk$Bond" "schedule" "LBondDesk$Schedule;") (by decide +kernel)) (fun _ h9 => h9) rfl dX0_worthAt_110 ?_
                refine va_get (D := D) (ci := 2) (v := .ref hd) (C := RX3) (T := TX3) (N := 9) hx hb hts inX0_worthAt_X3 hown hK hP 1 rfl rfl 6 (by decide) (hts (.fieldLink RX0 66 "BondDesk$Schedule" "dates" "[I") (by decide +kernel)) (fun _ h9 => h9) rfl dX0_worthAt_113 ?_
                refine va_alen (v := nI n) hx hb hK hP 0 0 rfl rfl rfl dX0_worthAt_116 ?_
                refine lv_icmp_ge (tgt := 168) hx hb dX0_worthAt_117 (by decide) (fun c18 => ?_) (fun c18 => ?_)
                · have hf := it hf c18
                  refine lv_lload hx hb dX0_worthAt_168 (lv_at hl 5 rfl) ?_
                  exact W.lret hx hb hr (fun t ht _ => ⟨_, rfl, Option.some.inj hf, ht⟩) (fun q hq => absurd hq List.not_mem_nil) dX0_worthAt_170
                · have hf := ie hf c18
                  refine lv_lload hx hb dX0_worthAt_120 (lv_at hl 5 rfl) ?_
                  refine lv_aload_n hx hb dX0_worthAt_122 rfl (lv_at hl 0 rfl) ?_
                  refine lv_iload hx hb dX0_worthAt_123 (lv_at hl 6 rfl) ?_
                  refine lv_iload_n hx hb dX0_worthAt_125 rfl (lv_at hl 1 rfl) ?_
                  obtain ⟨v19, hv19, hf⟩ := ob hf
                  refine cSl (W.runV (As := [.int x16, .int x13]) (rest := [.long x15]) ⟨hx, hb, hml, hown, hts⟩ (m_X0_paymentOn l D cI cJ cO ah ht hs hd B S T n ds x16 x13 v19 hv19) (cwV 2 hts gX0_worthAt_X0_paymentOn rfl rfl rfl (by decide +kernel) ⟨(Nat.le_of_ble_eq_true rfl), (Nat.le_of_ble_eq_true rfl)⟩) ⟨pw_blind, va_recv hK hP (ci := 0) (q0 := 2) rfl rfl, fun U hU hW => ⟨rfl, pw_at hZ va_S.rf hP hK hU hW (Or.inr rfl) [0, 1, 2] rfl⟩⟩ rfl rfl hl.1 rfl (lv_room (Nat.le_of_ble_eq_true rfl)) dX0_worthAt_126 ⟨(Nat.le_of_ble_eq_true rfl), (Nat.le_of_ble_eq_true rfl)⟩) ?_
                  refine lv_lload hx hb dX0_worthAt_129 (lv_at hl 4 rfl) ?_
                  refine lv_lmul hx hb dX0_worthAt_131 ?_
                  refine lv_ldc2 hx hb hown (hts (.constantLong RX0 105 (1000000000)) (by decide +kernel)) dX0_worthAt_132 ?_
                  refine lv_ldiv hx hb dX0_worthAt_135 (by decide) ?_
                  refine lv_ladd hx hb dX0_worthAt_136 ?_
                  refine lv_topl (fun x20 ex20 => ?_)
                  have hf := bd_s hf ex20
                  refine lv_lstore (lv' := [(11, .long x20), (0, .ref ht), (2, .int x13), (3, .int a2), (5, .long x2), (9, .long x14), (13, .int x16)]) hx hb dX0_worthAt_137 hl (by decide) rfl (fun ls hl => ?_)
                  refine lv_iload_n hx hb dX0_worthAt_139 rfl (lv_at hl 2 rfl) ?_
                  refine lv_aload_n hx hb dX0_worthAt_140 rfl (lv_at hl 1 rfl) ?_
                  refine lv_iload hx hb dX0_worthAt_141 (lv_at hl 6 rfl) ?_
                  refine lv_iload_n hx hb dX0_worthAt_143 rfl (lv_at hl 2 rfl) ?_
                  obtain ⟨v21, hv21, hf⟩ := ob hf
                  refine cSi (W.runV (As := [.int x16, .int x13]) (rest := [.int x13]) ⟨hx, hb, hml, hown, hts⟩ (m_X0_sunkOn l D cI cJ cO ah ht hs hd B S T n ds x16 x13 v21 hv21) (cwV 2 hts gX0_worthAt_X0_sunkOn rfl rfl rfl (by decide +kernel) ⟨(Nat.le_of_ble_eq_true rfl), (Nat.le_of_ble_eq_true rfl)⟩) ⟨pw_blind, va_recv hK hP (ci := 0) (q0 := 2) rfl rfl, fun U hU hW => ⟨rfl, pw_at hZ va_S.rf hP hK hU hW (Or.inr rfl) [0, 1, 2] rfl⟩⟩ rfl rfl hl.1 rfl (lv_room (Nat.le_of_ble_eq_true rfl)) dX0_worthAt_144 ⟨(Nat.le_of_ble_eq_true rfl), (Nat.le_of_ble_eq_true rfl)⟩) ?_
                  refine lv_isub hx hb dX0_worthAt_147 ?_
                  refine lv_topi (fun x22 ex22 => ?_)
                  have hf := bd_s hf ex22
                  refine lv_istore_n (lv' := [(2, .int x22), (11, .long x20), (0, .ref ht), (3, .int a2), (5, .long x2), (9, .long x14), (13, .int x16)]) hx hb dX0_worthAt_148 rfl hl (by decide) rfl (fun ls hl => ?_)
                  refine lv_lload hx hb dX0_worthAt_149 (lv_at hl 5 rfl) ?_
                  refine lv_lload hx hb dX0_worthAt_151 (lv_at hl 4 rfl) ?_
                  refine lv_lmul hx hb dX0_worthAt_153 ?_
                  refine lv_lload hx hb dX0_worthAt_154 (lv_at hl 4 rfl) ?_
                  refine lv_iload_n hx hb dX0_worthAt_156 rfl (lv_at hl 3 rfl) ?_
                  refine lv_i2l hx hb dX0_worthAt_157 rfl ?_
                  refine lv_ladd hx hb dX0_worthAt_158 ?_
                  refine lv_topl (fun x23 ex23 => ?_)
                  have hf := bd_s hf ex23
                  obtain ⟨c24, hf⟩ := gd_s hf
                  refine lv_ldiv hx hb dX0_worthAt_159 c24 ?_
                  refine lv_topl (fun x25 ex25 => ?_)
                  have hf := bd_s hf ex25
                  refine lv_lstore (lv' := [(9, .long x25), (2, .int x22), (11, .long x20), (0, .ref ht), (3, .int a2), (5, .long x2), (13, .int x16)]) hx hb dX0_worthAt_160 hl (by decide) rfl (fun ls hl => ?_)
                  obtain ⟨x26, ex26⟩ : ∃ y : Int32, y = x16 + 1 := ⟨_, rfl⟩
                  have hf := bd_s hf ex26
                  refine lv_iinc (v := x26) (lv' := [(13, .int x26), (9, .long x25), (2, .int x22), (11, .long x20), (0, .ref ht), (3, .int a2), (5, .long x2)]) hx hb dX0_worthAt_162 hl (k := 6) rfl (by rw [ex26]; rfl) (by decide) rfl (fun ls hl => ?_)
                  refine lv_goto (tgt := 107) hx hb dX0_worthAt_165 (by decide) ?_
                  exact ih17 x22 x25 x20 x26 ls (lv_sub hl [4, 2, 5, 6, 1, 3, 0] rfl) hf
            exact LP107 N a1 x12 0 v1 ls (lv_sub hl [3, 4, 5, 7, 2, 1, 0] rfl) hf
          refine lv_if_gt (tgt := 92) hx hb dX0_worthAt_85 (by decide) (fun c27 => ?_) (fun c27 => ?_)
          · have hf := it hf c27
            refine lv_ldc2 hx hb hown (hts (.constantLong RX0 99 (3650000000000000)) (by decide +kernel)) dX0_worthAt_92 ?_
            refine lv_lload hx hb dX0_worthAt_95 (lv_at hl 0 rfl) ?_
            obtain ⟨c28, hf⟩ := gd_s hf
            refine lv_ldiv hx hb dX0_worthAt_97 c28 ?_
            exact JK11 (3650000000000000 / x10) ls (lv_sub hl [3, 5, 6, 2, 1] rfl) hf
          · have hf := ie hf c27
            refine lv_lconst (v := 0) hx hb dX0_worthAt_88 (by decide) ?_
            refine lv_goto (tgt := 98) hx hb dX0_worthAt_89 (by decide) ?_
            exact JK11 0 ls (lv_sub hl [3, 5, 6, 2, 1] rfl) hf
        · have hf := ie hf c7
          refine lv_lconst (v := 0) hx hb dX0_worthAt_55 (by decide) ?_
          exact W.lret hx hb hr (fun t ht _ => ⟨_, rfl, Option.some.inj hf, ht⟩) (fun q hq => absurd hq List.not_mem_nil) dX0_worthAt_56
set_option maxHeartbeats 4000000 in
set_option maxRecDepth 100000 in
theorem m_X0_greatestRate (l : Launch) (D : va_G) (cI cJ cO : ClassId) (ah : Nat) (ht : Nat) (hs : Nat) (hd : Nat) (B : Nat → Int32) (S : Nat → Int32) (T : Nat → Int64) (n : Nat) (ds : Nat → Int32) (a0 : Int32) (a1 : Int32) (a2 : Int64) (a3 : Int32) (N : Nat) (r : Int32) (hf : f_X0_greatestRate N B S T n ds a0 a1 a2 a3 = some r) : Met l yX0_greatestRate wsX0_greatestRate ({ frames := 4, cells := 0, slots := 0, locals := 91 }) (va_Pc [.ref ht, .int a0, .int a1, .long a2, .int a3] (pw D (ty3 cI cJ cO) (some ah) [eD cI hd n ds, eS hs hd S T, eB ht hs B])) (QSi r) 0 0 (fun _ => False) := by
  refine Met.ofW (cc := cX0_greatestRate) (maxL := 8) (ret := (some .int)) (by decide) rfl ?_
  intro p e s m args below meth c s₁ Bd hml hv
  obtain ⟨rfl, hZ, hP, hK⟩ := hv
  have hx := Bd.exec
  have hb := Bd.bytes
  have hr := Bd.returns
  have hts := atoms_spec (ws := wsX0_greatestRate) Bd.pre
  have hown : s.vm.findClass RX0 = some m.cls := findClass_of_methodNamed Bd.named
  have hlocks := Bd.notSynchronized
  have hl := lv_entry ([.ref ht, .int a0, .int a1, .long a2, .int a3]) (n := 8) (Nat.le_of_ble_eq_true rfl)
  rw [lg_entry_eq]
  generalize (lg_sl ([.ref ht, .int a0, .int a1, .long a2, .int a3]) ++ List.replicate (8 - (lg_sl ([.ref ht, .int a0, .int a1, .long a2, .int a3])).length) Slot.unset).toArray = ls at hl ⊢
  have hl : lv_has ls 8 [(0, .ref ht), (1, .int a0), (2, .int a1), (3, .long a2), (5, .int a3)] := hl
  unfold f_X0_greatestRate at hf
  refine lv_iconst (v := (-1)) hx hb dX0_greatestRate_0 (by decide) ?_
  refine lv_topi (fun x1 ex1 => ?_)
  have hf := bd_s hf ex1
  refine lv_istore (lv' := [(6, .int x1), (0, .ref ht), (1, .int a0), (2, .int a1), (3, .long a2), (5, .int a3)]) hx hb dX0_greatestRate_1 hl (by decide) rfl (fun ls hl => ?_)
  refine lv_sipush (v := 4096) hx hb dX0_greatestRate_3 (by decide) ?_
  refine lv_istore (lv' := [(7, .int 4096), (6, .int x1), (0, .ref ht), (1, .int a0), (2, .int a1), (3, .long a2), (5, .int a3)]) hx hb dX0_greatestRate_6 hl (by decide) rfl (fun ls hl => ?_)
  have LP8 : ∀ (n4 : Nat) (x2 : Int32) (x3 : Int32) (ls : Array Slot), lv_has ls 8 [(0, .ref ht), (1, .int a0), (2, .int a1), (3, .long a2), (5, .int a3), (6, .int x2), (7, .int x3)] → f_X0_greatestRate_L8 a3 N B S T n ds a0 a1 a2 n4 x2 x3 = some r → W p l e (headSpec wsX0_greatestRate ({ frames := 4, cells := 0, slots := 0, locals := 91 })).room s m ([.ref ht, .int a0, .int a1, .long a2, .int a3] : List Value).toArray below meth c s.heap [] 0 0 (MQ below (QSi r) ([.ref ht, .int a0, .int a1, .long a2, .int a3] : List Value).toArray s 0 0 (fun _ => False)) (F0 m 8 ls []) := by
    intro n4
    induction n4 with
    | zero => intro x2 x3 ls hl hf; exact (no_s hf).elim
    | succ n4 ih4 =>
      intro x2 x3 ls hl hf
      rw [f_X0_greatestRate_L8] at hf
      refine lv_iload hx hb dX0_greatestRate_8 (lv_at hl 6 rfl) ?_
      refine lv_if_le (tgt := 55) hx hb dX0_greatestRate_10 (by decide) (fun c5 => ?_) (fun c5 => ?_)
      · have hf := it hf c5
        refine lv_iload hx hb dX0_greatestRate_55 (lv_at hl 5 rfl) ?_
        exact W.iret hx hb hr (fun t ht _ => ⟨_, rfl, Option.some.inj hf, ht⟩) (fun q hq => absurd hq List.not_mem_nil) dX0_greatestRate_57
      · have hf := ie hf c5
        refine lv_iload hx hb dX0_greatestRate_13 (lv_at hl 5 rfl) ?_
        refine lv_iload hx hb dX0_greatestRate_15 (lv_at hl 6 rfl) ?_
        refine lv_iadd hx hb dX0_greatestRate_17 ?_
        refine lv_iload hx hb dX0_greatestRate_18 (lv_at hl 4 rfl) ?_
        refine lv_icmp_gt (tgt := 46) hx hb dX0_greatestRate_20 (by decide) (fun c6 => ?_) (fun c6 => ?_)
        · have hf := it hf c6
          refine lv_iload hx hb dX0_greatestRate_46 (lv_at hl 6 rfl) ?_
          refine lv_iconst (v := 2) hx hb dX0_greatestRate_48 (by decide) ?_
          refine lv_idiv hx hb dX0_greatestRate_49 (by decide) ?_
          refine lv_topi (fun x7 ex7 => ?_)
          have hf := bd_s hf ex7
          refine lv_istore (lv' := [(7, .int x7), (0, .ref ht), (1, .int a0), (2, .int a1), (3, .long a2), (5, .int a3), (6, .int x2)]) hx hb dX0_greatestRate_50 hl (by decide) rfl (fun ls hl => ?_)
          refine lv_goto (tgt := 8) hx hb dX0_greatestRate_52 (by decide) ?_
          exact ih4 x2 x7 ls (lv_sub hl [1, 2, 3, 4, 5, 6, 0] rfl) hf
        · have hf := ie hf c6
          refine lv_aload_n hx hb dX0_greatestRate_23 rfl (lv_at hl 0 rfl) ?_
          refine lv_iload_n hx hb dX0_greatestRate_24 rfl (lv_at hl 1 rfl) ?_
          refine lv_iload_n hx hb dX0_greatestRate_25 rfl (lv_at hl 2 rfl) ?_
          refine lv_iload hx hb dX0_greatestRate_26 (lv_at hl 5 rfl) ?_
          refine lv_iload hx hb dX0_greatestRate_28 (lv_at hl 6 rfl) ?_
          refine lv_iadd hx hb dX0_greatestRate_30 ?_
          obtain ⟨v8, hv8, hf⟩ := ob hf
          refine cSl (W.runV (As := [.int a0, .int a1, .int (x2 + x3)]) (rest := []) ⟨hx, hb, hml, hown, hts⟩ (m_X0_worthAt l D cI cJ cO ah ht hs hd B S T n ds a0 a1 (x2 + x3) N v8 hv8) (cwV 3 hts gX0_greatestRate_X0_worthAt rfl rfl rfl (by decide +kernel) ⟨(Nat.le_of_ble_eq_true rfl), (Nat.le_of_ble_eq_true rfl)⟩) ⟨pw_blind, va_recv hK hP (ci := 0) (q0 := 2) rfl rfl, fun U hU hW => ⟨rfl, pw_at hZ va_S.rf hP hK hU hW (Or.inr rfl) [0, 1, 2] rfl⟩⟩ rfl rfl hl.1 rfl (lv_room (Nat.le_of_ble_eq_true rfl)) dX0_greatestRate_31 ⟨(Nat.le_of_ble_eq_true rfl), (Nat.le_of_ble_eq_true rfl)⟩) ?_
          refine lv_lload_n hx hb dX0_greatestRate_34 rfl (lv_at hl 3 rfl) ?_
          refine W.lcmp hx hb dX0_greatestRate_35 ?_
          refine lv_if_lt (tgt := 46) hx hb dX0_greatestRate_36 (by decide) (fun c9 => ?_) (fun c9 => ?_)
          · have hf := it hf c9
            refine lv_iload hx hb dX0_greatestRate_46 (lv_at hl 6 rfl) ?_
            refine lv_iconst (v := 2) hx hb dX0_greatestRate_48 (by decide) ?_
            refine lv_idiv hx hb dX0_greatestRate_49 (by decide) ?_
            refine lv_topi (fun x10 ex10 => ?_)
            have hf := bd_s hf ex10
            refine lv_istore (lv' := [(7, .int x10), (0, .ref ht), (1, .int a0), (2, .int a1), (3, .long a2), (5, .int a3), (6, .int x2)]) hx hb dX0_greatestRate_50 hl (by decide) rfl (fun ls hl => ?_)
            refine lv_goto (tgt := 8) hx hb dX0_greatestRate_52 (by decide) ?_
            exact ih4 x2 x10 ls (lv_sub hl [1, 2, 3, 4, 5, 6, 0] rfl) hf
          · have hf := ie hf c9
            refine lv_iload hx hb dX0_greatestRate_39 (lv_at hl 5 rfl) ?_
            refine lv_iload hx hb dX0_greatestRate_41 (lv_at hl 6 rfl) ?_
            refine lv_iadd hx hb dX0_greatestRate_43 ?_
            refine lv_topi (fun x11 ex11 => ?_)
            have hf := bd_s hf ex11
            refine lv_istore (lv' := [(6, .int x11), (0, .ref ht), (1, .int a0), (2, .int a1), (3, .long a2), (5, .int a3), (7, .int x3)]) hx hb dX0_greatestRate_44 hl (by decide) rfl (fun ls hl => ?_)
            refine lv_iload hx hb dX0_greatestRate_46 (lv_at hl 6 rfl) ?_
            refine lv_iconst (v := 2) hx hb dX0_greatestRate_48 (by decide) ?_
            refine lv_idiv hx hb dX0_greatestRate_49 (by decide) ?_
            refine lv_topi (fun x12 ex12 => ?_)
            have hf := bd_s hf ex12
            refine lv_istore (lv' := [(7, .int x12), (6, .int x11), (0, .ref ht), (1, .int a0), (2, .int a1), (3, .long a2), (5, .int a3)]) hx hb dX0_greatestRate_50 hl (by decide) rfl (fun ls hl => ?_)
            refine lv_goto (tgt := 8) hx hb dX0_greatestRate_52 (by decide) ?_
            exact ih4 x11 x12 ls (lv_sub hl [2, 3, 4, 5, 6, 1, 0] rfl) hf
  exact LP8 N x1 4096 ls (lv_sub hl [2, 3, 4, 5, 6, 1, 0] rfl) hf
theorem inX0_yieldAt_X0 : ∀ w ∈ wsX00, w ∈ wsX0_yieldAt := by decide +kernel
set_option maxHeartbeats 4000000 in
set_option maxRecDepth 100000 in
theorem m_X0_yieldAt (l : Launch) (D : va_G) (cI cJ cO : ClassId) (ah : Nat) (ht : Nat) (hs : Nat) (hd : Nat) (B : Nat → Int32) (S : Nat → Int32) (T : Nat → Int64) (n : Nat) (ds : Nat → Int32) (a0 : Int32) (a1 : Int32) (N : Nat) (r : Int32) (hf : f_X0_yieldAt N B S T n ds a0 a1 = some r) : Met l yX0_yieldAt wsX0_yieldAt ({ frames := 5, cells := 0, slots := 0, locals := 118 }) (va_Pc [.ref ht, .int a0, .int a1] (pw D (ty3 cI cJ cO) (some ah) [eD cI hd n ds, eS hs hd S T, eB ht hs B])) (QSi r) 0 0 (fun _ => False) := by
  refine Met.ofW (cc := cX0_yieldAt) (maxL := 3) (ret := (some .int)) (by decide) rfl ?_
  intro p e s m args below meth c s₁ Bd hml hv
  obtain ⟨rfl, hZ, hP, hK⟩ := hv
  have hx := Bd.exec
  have hb := Bd.bytes
  have hr := Bd.returns
  have hts := atoms_spec (ws := wsX0_yieldAt) Bd.pre
  have hown : s.vm.findClass RX0 = some m.cls := findClass_of_methodNamed Bd.named
  have hlocks := Bd.notSynchronized
  have hl := lv_entry ([.ref ht, .int a0, .int a1]) (n := 3) (Nat.le_of_ble_eq_true rfl)
  rw [lg_entry_eq]
  generalize (lg_sl ([.ref ht, .int a0, .int a1]) ++ List.replicate (3 - (lg_sl ([.ref ht, .int a0, .int a1])).length) Slot.unset).toArray = ls at hl ⊢
  have hl : lv_has ls 3 [(0, .ref ht), (1, .int a0), (2, .int a1)] := hl
  unfold f_X0_yieldAt at hf
  refine lv_aload_n hx hb dX0_yieldAt_0 rfl (lv_at hl 0 rfl) ?_
  obtain ⟨v1, hv1, hf⟩ := ob hf
  refine cSz (W.runV (As := []) (rest := []) ⟨hx, hb, hml, hown, hts⟩ (m_X0_isGone l D cI cJ cO ah ht hs hd B S T n ds v1 hv1) (cwV 0 hts gX0_yieldAt_X0_isGone rfl rfl rfl (by decide +kernel) ⟨(Nat.le_of_ble_eq_true rfl), (Nat.le_of_ble_eq_true rfl)⟩) ⟨pw_blind, va_recv hK hP (ci := 0) (q0 := 2) rfl rfl, fun U hU hW => ⟨rfl, pw_at hZ va_S.rf hP hK hU hW (Or.inr rfl) [0, 1, 2] rfl⟩⟩ rfl rfl hl.1 rfl (lv_room (Nat.le_of_ble_eq_true rfl)) dX0_yieldAt_1 ⟨(Nat.le_of_ble_eq_true rfl), (Nat.le_of_ble_eq_true rfl)⟩) (fun zv1 => ?_)
  refine lv_if_eq (tgt := 11) hx hb dX0_yieldAt_4 (by decide) (fun c2 => ?_) (fun c2 => ?_)
  · have hf := it hf c2
    refine lv_aload_n hx hb dX0_yieldAt_11 rfl (lv_at hl 0 rfl) ?_
    refine lv_iload_n hx hb dX0_yieldAt_12 rfl (lv_at hl 1 rfl) ?_
    refine lv_aload_n hx hb dX0_yieldAt_13 rfl (lv_at hl 0 rfl) ?_
    refine va_get (D := D) (ci := 0) (v := .int (B 1)) (C := RX0) (T := TX0) (N := 9) hx hb hts inX0_yieldAt_X0 hown hK hP 2 rfl rfl 1 (by decide) (hts (.fieldLink RX0 15 "BondDesk$Bond" "factor" "I") (by decide +kernel)) (fun _ h9 => h9) rfl dX0_yieldAt_14 ?_
    refine lv_aload_n hx hb dX0_yieldAt_17 rfl (lv_at hl 0 rfl) ?_
    refine lv_iload_n hx hb dX0_yieldAt_18 rfl (lv_at hl 1 rfl) ?_
    refine lv_iload_n hx hb dX0_yieldAt_19 rfl (lv_at hl 2 rfl) ?_
    obtain ⟨v3, hv3, hf⟩ := ob hf
    refine cSl (W.runV (As := [.int a0, .int a1]) (rest := [.int (B 1), .int a0, .ref ht]) ⟨hx, hb, hml, hown, hts⟩ (m_X0_fullPrice l D cI cJ cO ah ht hs hd B S T n ds a0 a1 N v3 hv3) (cwV 2 hts gX0_yieldAt_X0_fullPrice rfl rfl rfl (by decide +kernel) ⟨(Nat.le_of_ble_eq_true rfl), (Nat.le_of_ble_eq_true rfl)⟩) ⟨pw_blind, va_recv hK hP (ci := 0) (q0 := 2) rfl rfl, fun U hU hW => ⟨rfl, pw_at hZ va_S.rf hP hK hU hW (Or.inr rfl) [0, 1, 2] rfl⟩⟩ rfl rfl hl.1 rfl (lv_room (Nat.le_of_ble_eq_true rfl)) dX0_yieldAt_20 ⟨(Nat.le_of_ble_eq_true rfl), (Nat.le_of_ble_eq_true rfl)⟩) ?_
    refine lv_sipush (v := 5000) hx hb dX0_yieldAt_23 (by decide) ?_
    obtain ⟨v4, hv4, hf⟩ := ob hf
    refine cSi (W.runV (As := [.int a0, .int (B 1), .long v3, .int 5000]) (rest := []) ⟨hx, hb, hml, hown, hts⟩ (m_X0_greatestRate l D cI cJ cO ah ht hs hd B S T n ds a0 (B 1) v3 5000 N v4 hv4) (cwV 4 hts gX0_yieldAt_X0_greatestRate rfl rfl rfl (by decide +kernel) ⟨(Nat.le_of_ble_eq_true rfl), (Nat.le_of_ble_eq_true rfl)⟩) ⟨pw_blind, va_recv hK hP (ci := 0) (q0 := 2) rfl rfl, fun U hU hW => ⟨rfl, pw_at hZ va_S.rf hP hK hU hW (Or.inr rfl) [0, 1, 2] rfl⟩⟩ rfl rfl hl.1 rfl (lv_room (Nat.le_of_ble_eq_true rfl)) dX0_yieldAt_26 ⟨(Nat.le_of_ble_eq_true rfl), (Nat.le_of_ble_eq_true rfl)⟩) ?_
    exact W.iret hx hb hr (fun t ht _ => ⟨_, rfl, Option.some.inj hf, ht⟩) (fun q hq => absurd hq List.not_mem_nil) dX0_yieldAt_29
  · have hf := ie hf c2
    refine lv_iconst (v := (-1)) hx hb dX0_yieldAt_7 (by decide) ?_
    refine lv_goto (tgt := 29) hx hb dX0_yieldAt_8 (by decide) ?_
    exact W.iret hx hb hr (fun t ht _ => ⟨_, rfl, Option.some.inj hf, ht⟩) (fun q hq => absurd hq List.not_mem_nil) dX0_yieldAt_29
theorem inX0_isCallDate_X0 : ∀ w ∈ wsX00, w ∈ wsX0_isCallDate := by decide +kernel
theorem inX0_isCallDate_X3 : ∀ w ∈ wsX30, w ∈ wsX0_isCallDate := by decide +kernel
set_option maxHeartbeats 4000000 in
set_option maxRecDepth 100000 in
theorem m_X0_isCallDate (l : Launch) (D : va_G) (cI cJ cO : ClassId) (ah : Nat) (ht : Nat) (hs : Nat) (hd : Nat) (B : Nat → Int32) (S : Nat → Int32) (T : Nat → Int64) (n : Nat) (ds : Nat → Int32) (a0 : Int32) (r : Int32) (hf : f_X0_isCallDate B n ds a0 = some r) : Met l yX0_isCallDate wsX0_isCallDate ({ frames := 0, cells := 0, slots := 0, locals := 0 }) (va_Pc [.ref ht, .int a0] (pw D (ty3 cI cJ cO) (some ah) [eD cI hd n ds, eS hs hd S T, eB ht hs B])) (QSz r) 0 0 (fun _ => False) := by
  refine Met.ofW (cc := cX0_isCallDate) (maxL := 2) (ret := (some .boolean)) (by decide) rfl ?_
  intro p e s m args below meth c s₁ Bd hml hv
  obtain ⟨rfl, hZ, hP, hK⟩ := hv
  have hx := Bd.exec
  have hb := Bd.bytes
  have hr := Bd.returns
  have hts := atoms_spec (ws := wsX0_isCallDate) Bd.pre
  have hown : s.vm.findClass RX0 = some m.cls := findClass_of_methodNamed Bd.named
  have hlocks := Bd.notSynchronized
  have hl := lv_entry ([.ref ht, .int a0]) (n := 2) (Nat.le_of_ble_eq_true rfl)
  rw [lg_entry_eq]
  generalize (lg_sl ([.ref ht, .int a0]) ++ List.replicate (2 - (lg_sl ([.ref ht, .int a0])).length) Slot.unset).toArray = ls at hl ⊢
  have hl : lv_has ls 2 [(0, .ref ht), (1, .int a0)] := hl
  unfold f_X0_isCallDate at hf
  refine lv_aload_n hx hb dX0_isCallDate_0 rfl (lv_at hl 0 rfl) ?_
  refine va_get (D := D) (ci := 0) (v := .int (B 8)) (C := RX0) (T := TX0) (N := 9) hx hb hts inX0_isCallDate_X0 hown hK hP 2 rfl rfl 8 (by decide) (hts (.fieldLink RX0 118 "BondDesk$Bond" "callPrice" "I") (by decide +kernel)) (fun _ h9 => h9) rfl dX0_isCallDate_1 ?_
  refine lv_if_le (tgt := 45) hx hb dX0_isCallDate_4 (by decide) (fun c1 => ?_) (fun c1 => ?_)
  · have hf := it hf c1
    refine lv_iconst (v := 0) hx hb dX0_isCallDate_45 (by decide) ?_
    exact W.zret hx hb hr (zn (Or.inl rfl)) (fun t ht _ => ⟨_, rfl, ⟨Option.some.inj hf, (Or.inl rfl)⟩, ht⟩) (fun q hq => absurd hq List.not_mem_nil) dX0_isCallDate_46
  · have hf := ie hf c1
    refine lv_iload_n hx hb dX0_isCallDate_7 rfl (lv_at hl 1 rfl) ?_
    refine lv_if_lt (tgt := 45) hx hb dX0_isCallDate_8 (by decide) (fun c2 => ?_) (fun c2 => ?_)
    · have hf := it hf c2
      refine lv_iconst (v := 0) hx hb dX0_isCallDate_45 (by decide) ?_
      exact W.zret hx hb hr (zn (Or.inl rfl)) (fun t ht _ => ⟨_, rfl, ⟨Option.some.inj hf, (Or.inl rfl)⟩, ht⟩) (fun q hq => absurd hq List.not_mem_nil) dX0_isCallDate_46
    · have hf := ie hf c2
      refine lv_iload_n hx hb dX0_isCallDate_11 rfl (lv_at hl 1 rfl) ?_
      refine lv_aload_n hx hb dX0_isCallDate_12 rfl (lv_at hl 0 rfl) ?_
      refine va_get (D := D) (ci := 0) (v := .ref hs) (C := RX0) (T := TX0) (N := 9) hx hb hts inX0_isCallDate_X0 hown hK hP 2 rfl rfl 0 (by decide) (hts (.fieldLink RX0 9 "BondDesk$Bond" "schedule" "LBondDesk$Schedule;") (by decide +kernel)) (fun _ h9 => h9) rfl dX0_isCallDate_13 ?_
      refine va_get (D := D) (ci := 2) (v := .ref hd) (C := RX3) (T := TX3) (N := 9) hx hb hts inX0_isCallDate_X3 hown hK hP 1 rfl rfl 6 (by decide) (hts (.fieldLink RX0 66 "BondDesk$Schedule" "dates" "[I") (by decide +kernel)) (fun _ h9 => h9) rfl dX0_isCallDate_16 ?_
      refine va_alen (v := nI n) hx hb hK hP 0 0 rfl rfl rfl dX0_isCallDate_19 ?_
      refine lv_iconst (v := 1) hx hb dX0_isCallDate_20 (by decide) ?_
      refine lv_isub hx hb dX0_isCallDate_21 ?_
      refine lv_icmp_ge (tgt := 45) hx hb dX0_isCallDate_22 (by decide) (fun c3 => ?_) (fun c3 => ?_)
      · have hf := it hf c3
        refine lv_iconst (v := 0) hx hb dX0_isCallDate_45 (by decide) ?_
        exact W.zret hx hb hr (zn (Or.inl rfl)) (fun t ht _ => ⟨_, rfl, ⟨Option.some.inj hf, (Or.inl rfl)⟩, ht⟩) (fun q hq => absurd hq List.not_mem_nil) dX0_isCallDate_46
      · have hf := ie hf c3
        refine lv_aload_n hx hb dX0_isCallDate_25 rfl (lv_at hl 0 rfl) ?_
        refine va_get (D := D) (ci := 0) (v := .ref hs) (C := RX0) (T := TX0) (N := 9) hx hb hts inX0_isCallDate_X0 hown hK hP 2 rfl rfl 0 (by decide) (hts (.fieldLink RX0 9 "BondDesk$Bond" "schedule" "LBondDesk$Schedule;") (by decide +kernel)) (fun _ h9 => h9) rfl dX0_isCallDate_26 ?_
        refine va_get (D := D) (ci := 2) (v := .ref hd) (C := RX3) (T := TX3) (N := 9) hx hb hts inX0_isCallDate_X3 hown hK hP 1 rfl rfl 6 (by decide) (hts (.fieldLink RX0 66 "BondDesk$Schedule" "dates" "[I") (by decide +kernel)) (fun _ h9 => h9) rfl dX0_isCallDate_29 ?_
        refine lv_iload_n hx hb dX0_isCallDate_32 rfl (lv_at hl 1 rfl) ?_
        obtain ⟨c4, hf⟩ := gd_s hf
        refine va_iald hx hb hK hP 0 0 rfl rfl c4 dX0_isCallDate_33 ?_
        refine lv_aload_n hx hb dX0_isCallDate_34 rfl (lv_at hl 0 rfl) ?_
        refine va_get (D := D) (ci := 0) (v := .int (B 7)) (C := RX0) (T := TX0) (N := 9) hx hb hts inX0_isCallDate_X0 hown hK hP 2 rfl rfl 7 (by decide) (hts (.fieldLink RX0 121 "BondDesk$Bond" "callFrom" "I") (by decide +kernel)) (fun _ h9 => h9) rfl dX0_isCallDate_35 ?_
        refine lv_icmp_lt (tgt := 45) hx hb dX0_isCallDate_38 (by decide) (fun c5 => ?_) (fun c5 => ?_)
        · have hf := it hf c5
          refine lv_iconst (v := 0) hx hb dX0_isCallDate_45 (by decide) ?_
          exact W.zret hx hb hr (zn (Or.inl rfl)) (fun t ht _ => ⟨_, rfl, ⟨Option.some.inj hf, (Or.inl rfl)⟩, ht⟩) (fun q hq => absurd hq List.not_mem_nil) dX0_isCallDate_46
        · have hf := ie hf c5
          refine lv_iconst (v := 1) hx hb dX0_isCallDate_41 (by decide) ?_
          refine lv_goto (tgt := 46) hx hb dX0_isCallDate_42 (by decide) ?_
          exact W.zret hx hb hr (zn (Or.inr rfl)) (fun t ht _ => ⟨_, rfl, ⟨Option.some.inj hf, (Or.inr rfl)⟩, ht⟩) (fun q hq => absurd hq List.not_mem_nil) dX0_isCallDate_46
theorem inX0_callPayment_X0 : ∀ w ∈ wsX00, w ∈ wsX0_callPayment := by decide +kernel
set_option maxHeartbeats 4000000 in
set_option maxRecDepth 100000 in
theorem m_X0_callPayment (l : Launch) (D : va_G) (cI cJ cO : ClassId) (ah : Nat) (ht : Nat) (hs : Nat) (hd : Nat) (B : Nat → Int32) (S : Nat → Int32) (T : Nat → Int64) (n : Nat) (ds : Nat → Int32) (a0 : Int32) (r : Int64) (hf : f_X0_callPayment B a0 = some r) : Met l yX0_callPayment wsX0_callPayment ({ frames := 1, cells := 0, slots := 0, locals := 20 }) (va_Pc [.ref ht, .int a0] (pw D (ty3 cI cJ cO) (some ah) [eD cI hd n ds, eS hs hd S T, eB ht hs B])) (QSl r) 0 0 (fun _ => False) := by
  refine Met.ofW (cc := cX0_callPayment) (maxL := 2) (ret := (some .long)) (by decide) rfl ?_
  intro p e s m args below meth c s₁ Bd hml hv
  obtain ⟨rfl, hZ, hP, hK⟩ := hv
  have hx := Bd.exec
  have hb := Bd.bytes
  have hr := Bd.returns
  have hts := atoms_spec (ws := wsX0_callPayment) Bd.pre
  have hown : s.vm.findClass RX0 = some m.cls := findClass_of_methodNamed Bd.named
  have hlocks := Bd.notSynchronized
  have hl := lv_entry ([.ref ht, .int a0]) (n := 2) (Nat.le_of_ble_eq_true rfl)
  rw [lg_entry_eq]
  generalize (lg_sl ([.ref ht, .int a0]) ++ List.replicate (2 - (lg_sl ([.ref ht, .int a0])).length) Slot.unset).toArray = ls at hl ⊢
  have hl : lv_has ls 2 [(0, .ref ht), (1, .int a0)] := hl
  unfold f_X0_callPayment at hf
  refine lv_iload_n hx hb dX0_callPayment_0 rfl (lv_at hl 1 rfl) ?_
  obtain ⟨v1, hv1, hf⟩ := ob hf
  refine cSl (W.runS (As := [.int a0]) (rest := []) ⟨hx, hb, hml, hown, hts⟩ (m_X0_faceOf l D cI cJ cO ah a0 v1 hv1) (va_cwS 1 hts gX0_callPayment_X0_faceOf rfl rfl rfl (by decide +kernel) ⟨(Nat.le_of_ble_eq_true rfl), (Nat.le_of_ble_eq_true rfl)⟩) ⟨pw_blind, fun U hU hW => ⟨rfl, pw_at hZ va_S.rf hP hK hU hW (Or.inr rfl) [] rfl⟩⟩ rfl rfl hl.1 rfl (lv_room (Nat.le_of_ble_eq_true rfl)) dX0_callPayment_1 ⟨(Nat.le_of_ble_eq_true rfl), (Nat.le_of_ble_eq_true rfl)⟩) ?_
  refine lv_aload_n hx hb dX0_callPayment_4 rfl (lv_at hl 0 rfl) ?_
  refine va_get (D := D) (ci := 0) (v := .int (B 8)) (C := RX0) (T := TX0) (N := 9) hx hb hts inX0_callPayment_X0 hown hK hP 2 rfl rfl 8 (by decide) (hts (.fieldLink RX0 118 "BondDesk$Bond" "callPrice" "I") (by decide +kernel)) (fun _ h9 => h9) rfl dX0_callPayment_5 ?_
  refine lv_i2l hx hb dX0_callPayment_8 rfl ?_
  refine lv_lmul hx hb dX0_callPayment_9 ?_
  refine lv_ldc2 hx hb hown (hts (.constantLong RX0 52 (10000)) (by decide +kernel)) dX0_callPayment_10 ?_
  refine lv_ldiv hx hb dX0_callPayment_13 (by decide) ?_
  exact W.lret hx hb hr (fun t ht _ => ⟨_, rfl, Option.some.inj hf, ht⟩) (fun q hq => absurd hq List.not_mem_nil) dX0_callPayment_14
theorem inX0_firstCall_X0 : ∀ w ∈ wsX00, w ∈ wsX0_firstCall := by decide +kernel
theorem inX0_firstCall_X3 : ∀ w ∈ wsX30, w ∈ wsX0_firstCall := by decide +kernel
set_option maxHeartbeats 4000000 in
set_option maxRecDepth 100000 in
theorem m_X0_firstCall (l : Launch) (D : va_G) (cI cJ cO : ClassId) (ah : Nat) (ht : Nat) (hs : Nat) (hd : Nat) (B : Nat → Int32) (S : Nat → Int32) (T : Nat → Int64) (n : Nat) (ds : Nat → Int32) (N : Nat) (r : Int32) (hf : f_X0_firstCall N B n ds = some r) : Met l yX0_firstCall wsX0_firstCall ({ frames := 1, cells := 0, slots := 0, locals := 21 }) (va_Pc [.ref ht] (pw D (ty3 cI cJ cO) (some ah) [eD cI hd n ds, eS hs hd S T, eB ht hs B])) (QSi r) 0 0 (fun _ => False) := by
  refine Met.ofW (cc := cX0_firstCall) (maxL := 2) (ret := (some .int)) (by decide) rfl ?_
  intro p e s m args below meth c s₁ Bd hml hv
  obtain ⟨rfl, hZ, hP, hK⟩ := hv
  have hx := Bd.exec
  have hb := Bd.bytes
  have hr := Bd.returns
  have hts := atoms_spec (ws := wsX0_firstCall) Bd.pre
  have hown : s.vm.findClass RX0 = some m.cls := findClass_of_methodNamed Bd.named
  have hlocks := Bd.notSynchronized
  have hl := lv_entry ([.ref ht]) (n := 2) (Nat.le_of_ble_eq_true rfl)
  rw [lg_entry_eq]
  generalize (lg_sl ([.ref ht]) ++ List.replicate (2 - (lg_sl ([.ref ht])).length) Slot.unset).toArray = ls at hl ⊢
  have hl : lv_has ls 2 [(0, .ref ht)] := hl
  unfold f_X0_firstCall at hf
  refine lv_aload_n hx hb dX0_firstCall_0 rfl (lv_at hl 0 rfl) ?_
  refine va_get (D := D) (ci := 0) (v := .int (B 3)) (C := RX0) (T := TX0) (N := 9) hx hb hts inX0_firstCall_X0 hown hK hP 2 rfl rfl 3 (by decide) (hts (.fieldLink RX0 25 "BondDesk$Bond" "next" "I") (by decide +kernel)) (fun _ h9 => h9) rfl dX0_firstCall_1 ?_
  refine lv_topi (fun x1 ex1 => ?_)
  have hf := bd_s hf ex1
  refine lv_istore_n (lv' := [(1, .int x1), (0, .ref ht)]) hx hb dX0_firstCall_4 rfl hl (by decide) rfl (fun ls hl => ?_)
  have LP5 : ∀ (n3 : Nat) (x2 : Int32) (ls : Array Slot), lv_has ls 2 [(0, .ref ht), (1, .int x2)] → f_X0_firstCall_L5 n B ds n3 x2 = some r → W p l e (headSpec wsX0_firstCall ({ frames := 1, cells := 0, slots := 0, locals := 21 })).room s m ([.ref ht] : List Value).toArray below meth c s.heap [] 0 0 (MQ below (QSi r) ([.ref ht] : List Value).toArray s 0 0 (fun _ => False)) (F0 m 5 ls []) := by
    intro n3
    induction n3 with
    | zero => intro x2 ls hl hf; exact (no_s hf).elim
    | succ n3 ih3 =>
      intro x2 ls hl hf
      rw [f_X0_firstCall_L5] at hf
      refine lv_iload_n hx hb dX0_firstCall_5 rfl (lv_at hl 1 rfl) ?_
      refine lv_aload_n hx hb dX0_firstCall_6 rfl (lv_at hl 0 rfl) ?_
      refine va_get (D := D) (ci := 0) (v := .ref hs) (C := RX0) (T := TX0) (N := 9) hx hb hts inX0_firstCall_X0 hown hK hP 2 rfl rfl 0 (by decide) (hts (.fieldLink RX0 9 "BondDesk$Bond" "schedule" "LBondDesk$Schedule;") (by decide +kernel)) (fun _ h9 => h9) rfl dX0_firstCall_7 ?_
      refine va_get (D := D) (ci := 2) (v := .ref hd) (C := RX3) (T := TX3) (N := 9) hx hb hts inX0_firstCall_X3 hown hK hP 1 rfl rfl 6 (by decide) (hts (.fieldLink RX0 66 "BondDesk$Schedule" "dates" "[I") (by decide +kernel)) (fun _ h9 => h9) rfl dX0_firstCall_10 ?_
      refine va_alen (v := nI n) hx hb hK hP 0 0 rfl rfl rfl dX0_firstCall_13 ?_
      refine lv_icmp_ge (tgt := 33) hx hb dX0_firstCall_14 (by decide) (fun c4 => ?_) (fun c4 => ?_)
      · have hf := it hf c4
        refine lv_iconst (v := (-1)) hx hb dX0_firstCall_33 (by decide) ?_
        exact W.iret hx hb hr (fun t ht _ => ⟨_, rfl, Option.some.inj hf, ht⟩) (fun q hq => absurd hq List.not_mem_nil) dX0_firstCall_34
      · have hf := ie hf c4
        refine lv_aload_n hx hb dX0_firstCall_17 rfl (lv_at hl 0 rfl) ?_
        refine lv_iload_n hx hb dX0_firstCall_18 rfl (lv_at hl 1 rfl) ?_
        obtain ⟨v5, hv5, hf⟩ := ob hf
        refine cSz (W.runV (As := [.int x2]) (rest := []) ⟨hx, hb, hml, hown, hts⟩ (m_X0_isCallDate l D cI cJ cO ah ht hs hd B S T n ds x2 v5 hv5) (cwV 1 hts gX0_firstCall_X0_isCallDate rfl rfl rfl (by decide +kernel) ⟨(Nat.le_of_ble_eq_true rfl), (Nat.le_of_ble_eq_true rfl)⟩) ⟨pw_blind, va_recv hK hP (ci := 0) (q0 := 2) rfl rfl, fun U hU hW => ⟨rfl, pw_at hZ va_S.rf hP hK hU hW (Or.inr rfl) [0, 1, 2] rfl⟩⟩ rfl rfl hl.1 rfl (lv_room (Nat.le_of_ble_eq_true rfl)) dX0_firstCall_19 ⟨(Nat.le_of_ble_eq_true rfl), (Nat.le_of_ble_eq_true rfl)⟩) (fun zv5 => ?_)
        refine lv_if_eq (tgt := 27) hx hb dX0_firstCall_22 (by decide) (fun c6 => ?_) (fun c6 => ?_)
        · have hf := it hf c6
          obtain ⟨x7, ex7⟩ : ∃ y : Int32, y = x2 + 1 := ⟨_, rfl⟩
          have hf := bd_s hf ex7
          refine lv_iinc (v := x7) (lv' := [(1, .int x7), (0, .ref ht)]) hx hb dX0_firstCall_27 hl (k := 1) rfl (by rw [ex7]; rfl) (by decide) rfl (fun ls hl => ?_)
          refine lv_goto (tgt := 5) hx hb dX0_firstCall_30 (by decide) ?_
          exact ih3 x7 ls (lv_sub hl [1, 0] rfl) hf
        · have hf := ie hf c6
          refine lv_iload_n hx hb dX0_firstCall_25 rfl (lv_at hl 1 rfl) ?_
          exact W.iret hx hb hr (fun t ht _ => ⟨_, rfl, Option.some.inj hf, ht⟩) (fun q hq => absurd hq List.not_mem_nil) dX0_firstCall_26
  exact LP5 N x1 ls (lv_sub hl [1, 0] rfl) hf
theorem inX0_rateOfCall_X0 : ∀ w ∈ wsX00, w ∈ wsX0_rateOfCall := by decide +kernel
theorem inX0_rateOfCall_X3 : ∀ w ∈ wsX30, w ∈ wsX0_rateOfCall := by decide +kernel
set_option maxHeartbeats 4000000 in
set_option maxRecDepth 100000 in
theorem m_X0_rateOfCall (l : Launch) (D : va_G) (cI cJ cO : ClassId) (ah : Nat) (ht : Nat) (hs : Nat) (hd : Nat) (B : Nat → Int32) (S : Nat → Int32) (T : Nat → Int64) (n : Nat) (ds : Nat → Int32) (N : Nat) (r : Int32) (hf : f_X0_rateOfCall N B S T n ds = some r) : Met l yX0_rateOfCall wsX0_rateOfCall ({ frames := 5, cells := 0, slots := 0, locals := 118 }) (va_Pc [.ref ht] (pw D (ty3 cI cJ cO) (some ah) [eD cI hd n ds, eS hs hd S T, eB ht hs B])) (QSi r) 0 0 (fun _ => False) := by
  refine Met.ofW (cc := cX0_rateOfCall) (maxL := 3) (ret := (some .int)) (by decide) rfl ?_
  intro p e s m args below meth c s₁ Bd hml hv
  obtain ⟨rfl, hZ, hP, hK⟩ := hv
  have hx := Bd.exec
  have hb := Bd.bytes
  have hr := Bd.returns
  have hts := atoms_spec (ws := wsX0_rateOfCall) Bd.pre
  have hown : s.vm.findClass RX0 = some m.cls := findClass_of_methodNamed Bd.named
  have hlocks := Bd.notSynchronized
  have hl := lv_entry ([.ref ht]) (n := 3) (Nat.le_of_ble_eq_true rfl)
  rw [lg_entry_eq]
  generalize (lg_sl ([.ref ht]) ++ List.replicate (3 - (lg_sl ([.ref ht])).length) Slot.unset).toArray = ls at hl ⊢
  have hl : lv_has ls 3 [(0, .ref ht)] := hl
  unfold f_X0_rateOfCall at hf
  refine lv_aload_n hx hb dX0_rateOfCall_0 rfl (lv_at hl 0 rfl) ?_
  obtain ⟨v1, hv1, hf⟩ := ob hf
  refine cSz (W.runV (As := []) (rest := []) ⟨hx, hb, hml, hown, hts⟩ (m_X0_isGone l D cI cJ cO ah ht hs hd B S T n ds v1 hv1) (cwV 0 hts gX0_rateOfCall_X0_isGone rfl rfl rfl (by decide +kernel) ⟨(Nat.le_of_ble_eq_true rfl), (Nat.le_of_ble_eq_true rfl)⟩) ⟨pw_blind, va_recv hK hP (ci := 0) (q0 := 2) rfl rfl, fun U hU hW => ⟨rfl, pw_at hZ va_S.rf hP hK hU hW (Or.inr rfl) [0, 1, 2] rfl⟩⟩ rfl rfl hl.1 rfl (lv_room (Nat.le_of_ble_eq_true rfl)) dX0_rateOfCall_1 ⟨(Nat.le_of_ble_eq_true rfl), (Nat.le_of_ble_eq_true rfl)⟩) (fun zv1 => ?_)
  obtain ⟨K2, hK2, hf⟩ := jn_s hf
  have JK2 : ∀ (x3 : Int32) (ls : Array Slot), lv_has ls 3 [(0, .ref ht)] → K2 x3 = some r → W p l e (headSpec wsX0_rateOfCall ({ frames := 5, cells := 0, slots := 0, locals := 118 })).room s m ([.ref ht] : List Value).toArray below meth c s.heap [] 0 0 (MQ below (QSi r) ([.ref ht] : List Value).toArray s 0 0 (fun _ => False)) (F0 m 15 ls [.int x3]) := by
    intro x3 ls hl hf
    rw [hK2] at hf
    refine lv_istore_n (lv' := [(1, .int x3), (0, .ref ht)]) hx hb dX0_rateOfCall_15 rfl hl (by decide) rfl (fun ls hl => ?_)
    refine lv_aload_n hx hb dX0_rateOfCall_16 rfl (lv_at hl 1 rfl) ?_
    refine lv_iload_n hx hb dX0_rateOfCall_17 rfl (lv_at hl 0 rfl) ?_
    obtain ⟨v4, hv4, hf⟩ := ob hf
    refine cSi (W.runV (As := [.int x3]) (rest := []) ⟨hx, hb, hml, hown, hts⟩ (m_X0_factorBehind l D cI cJ cO ah ht hs hd B S T n ds x3 N v4 hv4) (cwV 1 hts gX0_rateOfCall_X0_factorBehind rfl rfl rfl (by decide +kernel) ⟨(Nat.le_of_ble_eq_true rfl), (Nat.le_of_ble_eq_true rfl)⟩) ⟨pw_blind, va_recv hK hP (ci := 0) (q0 := 2) rfl rfl, fun U hU hW => ⟨rfl, pw_at hZ va_S.rf hP hK hU hW (Or.inr rfl) [0, 1, 2] rfl⟩⟩ rfl rfl hl.1 rfl (lv_room (Nat.le_of_ble_eq_true rfl)) dX0_rateOfCall_18 ⟨(Nat.le_of_ble_eq_true rfl), (Nat.le_of_ble_eq_true rfl)⟩) ?_
    refine lv_istore_n (lv' := [(2, .int v4), (1, .int x3), (0, .ref ht)]) hx hb dX0_rateOfCall_21 rfl hl (by decide) rfl (fun ls hl => ?_)
    refine lv_iload_n hx hb dX0_rateOfCall_22 rfl (lv_at hl 1 rfl) ?_
    refine lv_if_lt (tgt := 42) hx hb dX0_rateOfCall_23 (by decide) (fun c5 => ?_) (fun c5 => ?_)
    · have hf := it hf c5
      refine lv_iconst (v := (-1)) hx hb dX0_rateOfCall_42 (by decide) ?_
      exact W.iret hx hb hr (fun t ht _ => ⟨_, rfl, Option.some.inj hf, ht⟩) (fun q hq => absurd hq List.not_mem_nil) dX0_rateOfCall_43
    · have hf := ie hf c5
      refine lv_iload_n hx hb dX0_rateOfCall_26 rfl (lv_at hl 1 rfl) ?_
      refine lv_aload_n hx hb dX0_rateOfCall_27 rfl (lv_at hl 2 rfl) ?_
      refine va_get (D := D) (ci := 0) (v := .ref hs) (C := RX0) (T := TX0) (N := 9) hx hb hts inX0_rateOfCall_X0 hown hK hP 2 rfl rfl 0 (by decide) (hts (.fieldLink RX0 9 "BondDesk$Bond" "schedule" "LBondDesk$Schedule;") (by decide +kernel)) (fun _ h9 => h9) rfl dX0_rateOfCall_28 ?_
      refine va_get (D := D) (ci := 2) (v := .ref hd) (C := RX3) (T := TX3) (N := 9) hx hb hts inX0_rateOfCall_X3 hown hK hP 1 rfl rfl 6 (by decide) (hts (.fieldLink RX0 66 "BondDesk$Schedule" "dates" "[I") (by decide +kernel)) (fun _ h9 => h9) rfl dX0_rateOfCall_31 ?_
      refine va_alen (v := nI n) hx hb hK hP 0 0 rfl rfl rfl dX0_rateOfCall_34 ?_
      refine lv_icmp_ge (tgt := 42) hx hb dX0_rateOfCall_35 (by decide) (fun c6 => ?_) (fun c6 => ?_)
      · have hf := it hf c6
        refine lv_iconst (v := (-1)) hx hb dX0_rateOfCall_42 (by decide) ?_
        exact W.iret hx hb hr (fun t ht _ => ⟨_, rfl, Option.some.inj hf, ht⟩) (fun q hq => absurd hq List.not_mem_nil) dX0_rateOfCall_43
      · have hf := ie hf c6
        refine lv_iload_n hx hb dX0_rateOfCall_38 rfl (lv_at hl 0 rfl) ?_
        refine lv_if_ne (tgt := 44) hx hb dX0_rateOfCall_39 (by decide) (fun c7 => ?_) (fun c7 => ?_)
        · have hf := ie hf c7
          refine lv_aload_n hx hb dX0_rateOfCall_44 rfl (lv_at hl 2 rfl) ?_
          refine lv_aload_n hx hb dX0_rateOfCall_45 rfl (lv_at hl 2 rfl) ?_
          refine va_get (D := D) (ci := 0) (v := .ref hs) (C := RX0) (T := TX0) (N := 9) hx hb hts inX0_rateOfCall_X0 hown hK hP 2 rfl rfl 0 (by decide) (hts (.fieldLink RX0 9 "BondDesk$Bond" "schedule" "LBondDesk$Schedule;") (by decide +kernel)) (fun _ h9 => h9) rfl dX0_rateOfCall_46 ?_
          refine va_get (D := D) (ci := 2) (v := .ref hd) (C := RX3) (T := TX3) (N := 9) hx hb hts inX0_rateOfCall_X3 hown hK hP 1 rfl rfl 6 (by decide) (hts (.fieldLink RX0 66 "BondDesk$Schedule" "dates" "[I") (by decide +kernel)) (fun _ h9 => h9) rfl dX0_rateOfCall_49 ?_
          refine lv_iload_n hx hb dX0_rateOfCall_52 rfl (lv_at hl 1 rfl) ?_
          obtain ⟨c8, hf⟩ := gd_s hf
          refine va_iald hx hb hK hP 0 0 rfl rfl c8 dX0_rateOfCall_53 ?_
          refine lv_iload_n hx hb dX0_rateOfCall_54 rfl (lv_at hl 0 rfl) ?_
          refine lv_aload_n hx hb dX0_rateOfCall_55 rfl (lv_at hl 2 rfl) ?_
          refine lv_iload_n hx hb dX0_rateOfCall_56 rfl (lv_at hl 0 rfl) ?_
          obtain ⟨v9, hv9, hf⟩ := ob hf
          refine cSl (W.runV (As := [.int v4]) (rest := [.int v4, .int (ds x3.toNatClampNeg), .ref ht]) ⟨hx, hb, hml, hown, hts⟩ (m_X0_callPayment l D cI cJ cO ah ht hs hd B S T n ds v4 v9 hv9) (cwV 1 hts gX0_rateOfCall_X0_callPayment rfl rfl rfl (by decide +kernel) ⟨(Nat.le_of_ble_eq_true rfl), (Nat.le_of_ble_eq_true rfl)⟩) ⟨pw_blind, va_recv hK hP (ci := 0) (q0 := 2) rfl rfl, fun U hU hW => ⟨rfl, pw_at hZ va_S.rf hP hK hU hW (Or.inr rfl) [0, 1, 2] rfl⟩⟩ rfl rfl hl.1 rfl (lv_room (Nat.le_of_ble_eq_true rfl)) dX0_rateOfCall_57 ⟨(Nat.le_of_ble_eq_true rfl), (Nat.le_of_ble_eq_true rfl)⟩) ?_
          refine lv_lconst (v := 1) hx hb dX0_rateOfCall_60 (by decide) ?_
          refine lv_ladd hx hb dX0_rateOfCall_61 ?_
          refine lv_sipush (v := 2000) hx hb dX0_rateOfCall_62 (by decide) ?_
          obtain ⟨v10, hv10, hf⟩ := ob hf
          refine cSi (W.runV (As := [.int (ds x3.toNatClampNeg), .int v4, .long (v9 + 1), .int 2000]) (rest := []) ⟨hx, hb, hml, hown, hts⟩ (m_X0_greatestRate l D cI cJ cO ah ht hs hd B S T n ds (ds x3.toNatClampNeg) v4 (v9 + 1) 2000 N v10 hv10) (cwV 4 hts gX0_rateOfCall_X0_greatestRate rfl rfl rfl (by decide +kernel) ⟨(Nat.le_of_ble_eq_true rfl), (Nat.le_of_ble_eq_true rfl)⟩) ⟨pw_blind, va_recv hK hP (ci := 0) (q0 := 2) rfl rfl, fun U hU hW => ⟨rfl, pw_at hZ va_S.rf hP hK hU hW (Or.inr rfl) [0, 1, 2] rfl⟩⟩ rfl rfl hl.1 rfl (lv_room (Nat.le_of_ble_eq_true rfl)) dX0_rateOfCall_65 ⟨(Nat.le_of_ble_eq_true rfl), (Nat.le_of_ble_eq_true rfl)⟩) ?_
          exact W.iret hx hb hr (fun t ht _ => ⟨_, rfl, Option.some.inj hf, ht⟩) (fun q hq => absurd hq List.not_mem_nil) dX0_rateOfCall_68
        · have hf := it hf c7
          refine lv_iconst (v := (-1)) hx hb dX0_rateOfCall_42 (by decide) ?_
          exact W.iret hx hb hr (fun t ht _ => ⟨_, rfl, Option.some.inj hf, ht⟩) (fun q hq => absurd hq List.not_mem_nil) dX0_rateOfCall_43
  refine lv_if_eq (tgt := 11) hx hb dX0_rateOfCall_4 (by decide) (fun c11 => ?_) (fun c11 => ?_)
  · have hf := it hf c11
    refine lv_aload_n hx hb dX0_rateOfCall_11 rfl (lv_at hl 0 rfl) ?_
    obtain ⟨v12, hv12, hf⟩ := ob hf
    refine cSi (W.runV (As := []) (rest := []) ⟨hx, hb, hml, hown, hts⟩ (m_X0_firstCall l D cI cJ cO ah ht hs hd B S T n ds N v12 hv12) (cwV 0 hts gX0_rateOfCall_X0_firstCall rfl rfl rfl (by decide +kernel) ⟨(Nat.le_of_ble_eq_true rfl), (Nat.le_of_ble_eq_true rfl)⟩) ⟨pw_blind, va_recv hK hP (ci := 0) (q0 := 2) rfl rfl, fun U hU hW => ⟨rfl, pw_at hZ va_S.rf hP hK hU hW (Or.inr rfl) [0, 1, 2] rfl⟩⟩ rfl rfl hl.1 rfl (lv_room (Nat.le_of_ble_eq_true rfl)) dX0_rateOfCall_12 ⟨(Nat.le_of_ble_eq_true rfl), (Nat.le_of_ble_eq_true rfl)⟩) ?_
    exact JK2 v12 ls (lv_sub hl [0] rfl) hf
  · have hf := ie hf c11
    refine lv_iconst (v := (-1)) hx hb dX0_rateOfCall_7 (by decide) ?_
    refine lv_goto (tgt := 15) hx hb dX0_rateOfCall_8 (by decide) ?_
    exact JK2 (-1) ls (lv_sub hl [0] rfl) hf
theorem inX0_paymentsIn_X0 : ∀ w ∈ wsX00, w ∈ wsX0_paymentsIn := by decide +kernel
theorem inX0_paymentsIn_X3 : ∀ w ∈ wsX30, w ∈ wsX0_paymentsIn := by decide +kernel
set_option maxHeartbeats 4000000 in
set_option maxRecDepth 100000 in
theorem m_X0_paymentsIn (l : Launch) (D : va_G) (cI cJ cO : ClassId) (ah : Nat) (ht : Nat) (hs : Nat) (hd : Nat) (B : Nat → Int32) (S : Nat → Int32) (T : Nat → Int64) (n : Nat) (ds : Nat → Int32) (a0 : Int32) (a1 : Int32) (N : Nat) (r : Int64) (hf : f_X0_paymentsIn N B S T n ds a0 a1 = some r) : Met l yX0_paymentsIn wsX0_paymentsIn ({ frames := 3, cells := 0, slots := 0, locals := 58 }) (va_Pc [.ref ht, .int a0, .int a1] (pw D (ty3 cI cJ cO) (some ah) [eD cI hd n ds, eS hs hd S T, eB ht hs B])) (QSl r) 0 0 (fun _ => False) := by
  refine Met.ofW (cc := cX0_paymentsIn) (maxL := 7) (ret := (some .long)) (by decide) rfl ?_
  intro p e s m args below meth c s₁ Bd hml hv
  obtain ⟨rfl, hZ, hP, hK⟩ := hv
  have hx := Bd.exec
  have hb := Bd.bytes
  have hr := Bd.returns
  have hts := atoms_spec (ws := wsX0_paymentsIn) Bd.pre
  have hown : s.vm.findClass RX0 = some m.cls := findClass_of_methodNamed Bd.named
  have hlocks := Bd.notSynchronized
  have hl := lv_entry ([.ref ht, .int a0, .int a1]) (n := 7) (Nat.le_of_ble_eq_true rfl)
  rw [lg_entry_eq]
  generalize (lg_sl ([.ref ht, .int a0, .int a1]) ++ List.replicate (7 - (lg_sl ([.ref ht, .int a0, .int a1])).length) Slot.unset).toArray = ls at hl ⊢
  have hl : lv_has ls 7 [(0, .ref ht), (1, .int a0), (2, .int a1)] := hl
  unfold f_X0_paymentsIn at hf
  refine lv_lconst (v := 0) hx hb dX0_paymentsIn_0 (by decide) ?_
  refine lv_lstore_n (lv' := [(3, .long 0), (0, .ref ht), (1, .int a0), (2, .int a1)]) hx hb dX0_paymentsIn_1 rfl hl (by decide) rfl (fun ls hl => ?_)
  refine lv_aload_n hx hb dX0_paymentsIn_2 rfl (lv_at hl 1 rfl) ?_
  refine va_get (D := D) (ci := 0) (v := .int (B 1)) (C := RX0) (T := TX0) (N := 9) hx hb hts inX0_paymentsIn_X0 hown hK hP 2 rfl rfl 1 (by decide) (hts (.fieldLink RX0 15 "BondDesk$Bond" "factor" "I") (by decide +kernel)) (fun _ h9 => h9) rfl dX0_paymentsIn_3 ?_
  refine lv_topi (fun x1 ex1 => ?_)
  have hf := bd_s hf ex1
  refine lv_istore (lv' := [(5, .int x1), (3, .long 0), (0, .ref ht), (1, .int a0), (2, .int a1)]) hx hb dX0_paymentsIn_6 hl (by decide) rfl (fun ls hl => ?_)
  refine lv_aload_n hx hb dX0_paymentsIn_8 rfl (lv_at hl 2 rfl) ?_
  refine va_get (D := D) (ci := 0) (v := .ref hs) (C := RX0) (T := TX0) (N := 9) hx hb hts inX0_paymentsIn_X0 hown hK hP 2 rfl rfl 0 (by decide) (hts (.fieldLink RX0 9 "BondDesk$Bond" "schedule" "LBondDesk$Schedule;") (by decide +kernel)) (fun _ h9 => h9) rfl dX0_paymentsIn_9 ?_
  refine lv_iload_n hx hb dX0_paymentsIn_12 rfl (lv_at hl 4 rfl) ?_
  obtain ⟨v2, hv2, hf⟩ := ob hf
  refine cSi (W.runV (As := [.int a1]) (rest := []) ⟨hx, hb, hml, hown, hts⟩ (m_X3_firstBehind l D cI cJ cO ah hs hd S T n ds a1 N v2 hv2) (cwV 1 hts gX0_paymentsIn_X3_firstBehind rfl rfl rfl (by decide +kernel) ⟨(Nat.le_of_ble_eq_true rfl), (Nat.le_of_ble_eq_true rfl)⟩) ⟨pw_blind, va_recv hK hP (ci := 2) (q0 := 1) rfl rfl, fun U hU hW => ⟨rfl, pw_at hZ va_S.rf hP hK hU hW (Or.inr rfl) [0, 1] rfl⟩⟩ rfl rfl hl.1 rfl (lv_room (Nat.le_of_ble_eq_true rfl)) dX0_paymentsIn_13 ⟨(Nat.le_of_ble_eq_true rfl), (Nat.le_of_ble_eq_true rfl)⟩) ?_
  refine lv_istore (lv' := [(6, .int v2), (5, .int x1), (3, .long 0), (0, .ref ht), (1, .int a0), (2, .int a1)]) hx hb dX0_paymentsIn_16 hl (by decide) rfl (fun ls hl => ?_)
  have LP18 : ∀ (n6 : Nat) (x3 : Int64) (x4 : Int32) (x5 : Int32) (ls : Array Slot), lv_has ls 7 [(0, .ref ht), (1, .int a0), (3, .long x3), (5, .int x4), (6, .int x5)] → f_X0_paymentsIn_L18 n ds B a0 S T n6 x3 x4 x5 = some r → W p l e (headSpec wsX0_paymentsIn ({ frames := 3, cells := 0, slots := 0, locals := 58 })).room s m ([.ref ht, .int a0, .int a1] : List Value).toArray below meth c s.heap [] 0 0 (MQ below (QSl r) ([.ref ht, .int a0, .int a1] : List Value).toArray s 0 0 (fun _ => False)) (F0 m 18 ls []) := by
    intro n6
    induction n6 with
    | zero => intro x3 x4 x5 ls hl hf; exact (no_s hf).elim
    | succ n6 ih6 =>
      intro x3 x4 x5 ls hl hf
      rw [f_X0_paymentsIn_L18] at hf
      refine lv_iload hx hb dX0_paymentsIn_18 (lv_at hl 4 rfl) ?_
      refine lv_aload_n hx hb dX0_paymentsIn_20 rfl (lv_at hl 0 rfl) ?_
      refine va_get (D := D) (ci := 0) (v := .ref hs) (C := RX0) (T := TX0) (N := 9) hx hb hts inX0_paymentsIn_X0 hown hK hP 2 rfl rfl 0 (by decide) (hts (.fieldLink RX0 9 "BondDesk$Bond" "schedule" "LBondDesk$Schedule;") (by decide +kernel)) (fun _ h9 => h9) rfl dX0_paymentsIn_21 ?_
      refine va_get (D := D) (ci := 2) (v := .ref hd) (C := RX3) (T := TX3) (N := 9) hx hb hts inX0_paymentsIn_X3 hown hK hP 1 rfl rfl 6 (by decide) (hts (.fieldLink RX0 66 "BondDesk$Schedule" "dates" "[I") (by decide +kernel)) (fun _ h9 => h9) rfl dX0_paymentsIn_24 ?_
      refine va_alen (v := nI n) hx hb hK hP 0 0 rfl rfl rfl dX0_paymentsIn_27 ?_
      refine lv_icmp_ge (tgt := 78) hx hb dX0_paymentsIn_28 (by decide) (fun c7 => ?_) (fun c7 => ?_)
      · have hf := it hf c7
        refine lv_lload_n hx hb dX0_paymentsIn_78 rfl (lv_at hl 2 rfl) ?_
        exact W.lret hx hb hr (fun t ht _ => ⟨_, rfl, Option.some.inj hf, ht⟩) (fun q hq => absurd hq List.not_mem_nil) dX0_paymentsIn_79
      · have hf := ie hf c7
        refine lv_aload_n hx hb dX0_paymentsIn_31 rfl (lv_at hl 0 rfl) ?_
        refine va_get (D := D) (ci := 0) (v := .ref hs) (C := RX0) (T := TX0) (N := 9) hx hb hts inX0_paymentsIn_X0 hown hK hP 2 rfl rfl 0 (by decide) (hts (.fieldLink RX0 9 "BondDesk$Bond" "schedule" "LBondDesk$Schedule;") (by decide +kernel)) (fun _ h9 => h9) rfl dX0_paymentsIn_32 ?_
        refine va_get (D := D) (ci := 2) (v := .ref hd) (C := RX3) (T := TX3) (N := 9) hx hb hts inX0_paymentsIn_X3 hown hK hP 1 rfl rfl 6 (by decide) (hts (.fieldLink RX0 66 "BondDesk$Schedule" "dates" "[I") (by decide +kernel)) (fun _ h9 => h9) rfl dX0_paymentsIn_35 ?_
        refine lv_iload hx hb dX0_paymentsIn_38 (lv_at hl 4 rfl) ?_
        obtain ⟨c8, hf⟩ := gd_s hf
        refine va_iald hx hb hK hP 0 0 rfl rfl c8 dX0_paymentsIn_40 ?_
        obtain ⟨v9, hv9, hf⟩ := ob hf
        refine cSi (W.runS (As := [.int (ds x5.toNatClampNeg)]) (rest := []) ⟨hx, hb, hml, hown, hts⟩ (m_X1_yearOf l D cI cJ cO ah (ds x5.toNatClampNeg) v9 hv9) (va_cwS 1 hts gX0_paymentsIn_X1_yearOf rfl rfl rfl (by decide +kernel) ⟨(Nat.le_of_ble_eq_true rfl), (Nat.le_of_ble_eq_true rfl)⟩) ⟨pw_blind, fun U hU hW => ⟨rfl, pw_at hZ va_S.rf hP hK hU hW (Or.inr rfl) [] rfl⟩⟩ rfl rfl hl.1 rfl (lv_room (Nat.le_of_ble_eq_true rfl)) dX0_paymentsIn_41 ⟨(Nat.le_of_ble_eq_true rfl), (Nat.le_of_ble_eq_true rfl)⟩) ?_
        refine lv_iload_n hx hb dX0_paymentsIn_44 rfl (lv_at hl 1 rfl) ?_
        obtain ⟨K10, hK10, hf⟩ := jn_s hf
        have JK10 : ∀ (x11 : Int64) (ls : Array Slot), lv_has ls 7 [(0, .ref ht), (1, .int a0), (3, .long x11), (5, .int x4), (6, .int x5)] → K10 x11 = some r → W p l e (headSpec wsX0_paymentsIn ({ frames := 3, cells := 0, slots := 0, locals := 58 })).room s m ([.ref ht, .int a0, .int a1] : List Value).toArray below meth c s.heap [] 0 0 (MQ below (QSl r) ([.ref ht, .int a0, .int a1] : List Value).toArray s 0 0 (fun _ => False)) (F0 m 59 ls []) := by
          intro x11 ls hl hf
          rw [hK10] at hf
          refine lv_iload hx hb dX0_paymentsIn_59 (lv_at hl 3 rfl) ?_
          refine lv_aload_n hx hb dX0_paymentsIn_61 rfl (lv_at hl 0 rfl) ?_
          refine lv_iload hx hb dX0_paymentsIn_62 (lv_at hl 4 rfl) ?_
          refine lv_iload hx hb dX0_paymentsIn_64 (lv_at hl 3 rfl) ?_
          obtain ⟨v12, hv12, hf⟩ := ob hf
          refine cSi (W.runV (As := [.int x5, .int x4]) (rest := [.int x4]) ⟨hx, hb, hml, hown, hts⟩ (m_X0_sunkOn l D cI cJ cO ah ht hs hd B S T n ds x5 x4 v12 hv12) (cwV 2 hts gX0_paymentsIn_X0_sunkOn rfl rfl rfl (by decide +kernel) ⟨(Nat.le_of_ble_eq_true rfl), (Nat.le_of_ble_eq_true rfl)⟩) ⟨pw_blind, va_recv hK hP (ci := 0) (q0 := 2) rfl rfl, fun U hU hW => ⟨rfl, pw_at hZ va_S.rf hP hK hU hW (Or.inr rfl) [0, 1, 2] rfl⟩⟩ rfl rfl hl.1 rfl (lv_room (Nat.le_of_ble_eq_true rfl)) dX0_paymentsIn_66 ⟨(Nat.le_of_ble_eq_true rfl), (Nat.le_of_ble_eq_true rfl)⟩) ?_
          refine lv_isub hx hb dX0_paymentsIn_69 ?_
          refine lv_topi (fun x13 ex13 => ?_)
          have hf := bd_s hf ex13
          refine lv_istore (lv' := [(5, .int x13), (0, .ref ht), (1, .int a0), (3, .long x11), (6, .int x5)]) hx hb dX0_paymentsIn_70 hl (by decide) rfl (fun ls hl => ?_)
          obtain ⟨x14, ex14⟩ : ∃ y : Int32, y = x5 + 1 := ⟨_, rfl⟩
          have hf := bd_s hf ex14
          refine lv_iinc (v := x14) (lv' := [(6, .int x14), (5, .int x13), (0, .ref ht), (1, .int a0), (3, .long x11)]) hx hb dX0_paymentsIn_72 hl (k := 4) rfl (by rw [ex14]; rfl) (by decide) rfl (fun ls hl => ?_)
          refine lv_goto (tgt := 18) hx hb dX0_paymentsIn_75 (by decide) ?_
          exact ih6 x11 x13 x14 ls (lv_sub hl [2, 3, 4, 1, 0] rfl) hf
        refine lv_icmp_ne (tgt := 59) hx hb dX0_paymentsIn_45 (by decide) (fun c15 => ?_) (fun c15 => ?_)
        · have hf := ie hf c15
          exact JK10 x3 ls (lv_sub hl [0, 1, 2, 3, 4] rfl) hf
        · have hf := it hf c15
          refine lv_lload_n hx hb dX0_paymentsIn_48 rfl (lv_at hl 2 rfl) ?_
          refine lv_aload_n hx hb dX0_paymentsIn_49 rfl (lv_at hl 0 rfl) ?_
          refine lv_iload hx hb dX0_paymentsIn_50 (lv_at hl 4 rfl) ?_
          refine lv_iload hx hb dX0_paymentsIn_52 (lv_at hl 3 rfl) ?_
          obtain ⟨v16, hv16, hf⟩ := ob hf
          refine cSl (W.runV (As := [.int x5, .int x4]) (rest := [.long x3]) ⟨hx, hb, hml, hown, hts⟩ (m_X0_paymentOn l D cI cJ cO ah ht hs hd B S T n ds x5 x4 v16 hv16) (cwV 2 hts gX0_paymentsIn_X0_paymentOn rfl rfl rfl (by decide +kernel) ⟨(Nat.le_of_ble_eq_true rfl), (Nat.le_of_ble_eq_true rfl)⟩) ⟨pw_blind, va_recv hK hP (ci := 0) (q0 := 2) rfl rfl, fun U hU hW => ⟨rfl, pw_at hZ va_S.rf hP hK hU hW (Or.inr rfl) [0, 1, 2] rfl⟩⟩ rfl rfl hl.1 rfl (lv_room (Nat.le_of_ble_eq_true rfl)) dX0_paymentsIn_54 ⟨(Nat.le_of_ble_eq_true rfl), (Nat.le_of_ble_eq_true rfl)⟩) ?_
          refine lv_ladd hx hb dX0_paymentsIn_57 ?_
          refine lv_topl (fun x17 ex17 => ?_)
          have hf := bd_s hf ex17
          refine lv_lstore_n (lv' := [(3, .long x17), (0, .ref ht), (1, .int a0), (5, .int x4), (6, .int x5)]) hx hb dX0_paymentsIn_58 rfl hl (by decide) rfl (fun ls hl => ?_)
          exact JK10 x17 ls (lv_sub hl [1, 2, 0, 3, 4] rfl) hf
  exact LP18 N 0 x1 v2 ls (lv_sub hl [3, 4, 2, 1, 0] rfl) hf
theorem inX0_tell_X0 : ∀ w ∈ wsX00, w ∈ wsX0_tell := by decide +kernel
theorem inX0_tell_X3 : ∀ w ∈ wsX30, w ∈ wsX0_tell := by decide +kernel
set_option maxHeartbeats 4000000 in
set_option maxRecDepth 100000 in
theorem m_X0_tell (l : Launch) (D : va_G) (cI cJ cO : ClassId) (ah : Nat) (ht : Nat) (hs : Nat) (hd : Nat) (B : Nat → Int32) (S : Nat → Int32) (T : Nat → Int64) (n : Nat) (ds : Nat → Int32) (a0 : Int32) (r : Int32) (hf : f_X0_tell B S n a0 = some r) : Met l yX0_tell wsX0_tell ({ frames := 2, cells := 0, slots := 0, locals := 40 }) (va_Pc [.ref ht, .int a0] (pw D (ty3 cI cJ cO) (some ah) [eD cI hd n ds, eS hs hd S T, eB ht hs B])) (QSi r) 0 0 (fun _ => False) := by
  refine Met.ofW (cc := cX0_tell) (maxL := 2) (ret := (some .int)) (by decide) rfl ?_
  intro p e s m args below meth c s₁ Bd hml hv
  obtain ⟨rfl, hZ, hP, hK⟩ := hv
  have hx := Bd.exec
  have hb := Bd.bytes
  have hr := Bd.returns
  have hts := atoms_spec (ws := wsX0_tell) Bd.pre
  have hown : s.vm.findClass RX0 = some m.cls := findClass_of_methodNamed Bd.named
  have hlocks := Bd.notSynchronized
  have hl := lv_entry ([.ref ht, .int a0]) (n := 2) (Nat.le_of_ble_eq_true rfl)
  rw [lg_entry_eq]
  generalize (lg_sl ([.ref ht, .int a0]) ++ List.replicate (2 - (lg_sl ([.ref ht, .int a0])).length) Slot.unset).toArray = ls at hl ⊢
  have hl : lv_has ls 2 [(0, .ref ht), (1, .int a0)] := hl
  unfold f_X0_tell at hf
  refine lv_iload_n hx hb dX0_tell_0 rfl (lv_at hl 1 rfl) ?_
  by_cases c1 : a0 = 0
  · have hf := it hf c1
    refine lv_tableIn (off := 55) (tgt := 56) hx hb dX0_tell_1 (by rw [c1]; decide) (by rw [c1]; decide) (by rw [c1]; rfl) (by decide) ?_
    refine lv_aload_n hx hb dX0_tell_56 rfl (lv_at hl 0 rfl) ?_
    refine va_get (D := D) (ci := 0) (v := .ref hs) (C := RX0) (T := TX0) (N := 9) hx hb hts inX0_tell_X0 hown hK hP 2 rfl rfl 0 (by decide) (hts (.fieldLink RX0 9 "BondDesk$Bond" "schedule" "LBondDesk$Schedule;") (by decide +kernel)) (fun _ h9 => h9) rfl dX0_tell_57 ?_
    refine va_get (D := D) (ci := 2) (v := .int (S 0)) (C := RX3) (T := TX3) (N := 9) hx hb hts inX0_tell_X3 hown hK hP 1 rfl rfl 0 (by decide) (hts (.fieldLink RX0 31 "BondDesk$Schedule" "issue" "I") (by decide +kernel)) (fun _ h9 => h9) rfl dX0_tell_60 ?_
    exact W.iret hx hb hr (fun t ht _ => ⟨_, rfl, Option.some.inj hf, ht⟩) (fun q hq => absurd hq List.not_mem_nil) dX0_tell_63
  have hf := ie hf c1
  by_cases c2 : a0 = 1
  · have hf := it hf c2
    refine lv_tableIn (off := 63) (tgt := 64) hx hb dX0_tell_1 (by rw [c2]; decide) (by rw [c2]; decide) (by rw [c2]; rfl) (by decide) ?_
    refine lv_aload_n hx hb dX0_tell_64 rfl (lv_at hl 0 rfl) ?_
    refine va_get (D := D) (ci := 0) (v := .ref hs) (C := RX0) (T := TX0) (N := 9) hx hb hts inX0_tell_X0 hown hK hP 2 rfl rfl 0 (by decide) (hts (.fieldLink RX0 9 "BondDesk$Bond" "schedule" "LBondDesk$Schedule;") (by decide +kernel)) (fun _ h9 => h9) rfl dX0_tell_65 ?_
    refine va_get (D := D) (ci := 2) (v := .int (S 1)) (C := RX3) (T := TX3) (N := 9) hx hb hts inX0_tell_X3 hown hK hP 1 rfl rfl 1 (by decide) (hts (.fieldLink RX0 42 "BondDesk$Schedule" "end" "I") (by decide +kernel)) (fun _ h9 => h9) rfl dX0_tell_68 ?_
    exact W.iret hx hb hr (fun t ht _ => ⟨_, rfl, Option.some.inj hf, ht⟩) (fun q hq => absurd hq List.not_mem_nil) dX0_tell_71
  have hf := ie hf c2
  by_cases c3 : a0 = 2
  · have hf := it hf c3
    refine lv_tableIn (off := 71) (tgt := 72) hx hb dX0_tell_1 (by rw [c3]; decide) (by rw [c3]; decide) (by rw [c3]; rfl) (by decide) ?_
    refine lv_aload_n hx hb dX0_tell_72 rfl (lv_at hl 0 rfl) ?_
    refine va_get (D := D) (ci := 0) (v := .ref hs) (C := RX0) (T := TX0) (N := 9) hx hb hts inX0_tell_X0 hown hK hP 2 rfl rfl 0 (by decide) (hts (.fieldLink RX0 9 "BondDesk$Bond" "schedule" "LBondDesk$Schedule;") (by decide +kernel)) (fun _ h9 => h9) rfl dX0_tell_73 ?_
    refine va_get (D := D) (ci := 2) (v := .int (S 2)) (C := RX3) (T := TX3) (N := 9) hx hb hts inX0_tell_X3 hown hK hP 1 rfl rfl 2 (by decide) (hts (.fieldLink RX0 163 "BondDesk$Schedule" "rate" "I") (by decide +kernel)) (fun _ h9 => h9) rfl dX0_tell_76 ?_
    exact W.iret hx hb hr (fun t ht _ => ⟨_, rfl, Option.some.inj hf, ht⟩) (fun q hq => absurd hq List.not_mem_nil) dX0_tell_79
  have hf := ie hf c3
  by_cases c4 : a0 = 3
  · have hf := it hf c4
    refine lv_tableIn (off := 79) (tgt := 80) hx hb dX0_tell_1 (by rw [c4]; decide) (by rw [c4]; decide) (by rw [c4]; rfl) (by decide) ?_
    refine lv_aload_n hx hb dX0_tell_80 rfl (lv_at hl 0 rfl) ?_
    refine va_get (D := D) (ci := 0) (v := .ref hs) (C := RX0) (T := TX0) (N := 9) hx hb hts inX0_tell_X0 hown hK hP 2 rfl rfl 0 (by decide) (hts (.fieldLink RX0 9 "BondDesk$Bond" "schedule" "LBondDesk$Schedule;") (by decide +kernel)) (fun _ h9 => h9) rfl dX0_tell_81 ?_
    refine va_get (D := D) (ci := 2) (v := .int (S 3)) (C := RX3) (T := TX3) (N := 9) hx hb hts inX0_tell_X3 hown hK hP 1 rfl rfl 3 (by decide) (hts (.fieldLink RX0 91 "BondDesk$Schedule" "perYear" "I") (by decide +kernel)) (fun _ h9 => h9) rfl dX0_tell_84 ?_
    exact W.iret hx hb hr (fun t ht _ => ⟨_, rfl, Option.some.inj hf, ht⟩) (fun q hq => absurd hq List.not_mem_nil) dX0_tell_87
  have hf := ie hf c4
  by_cases c5 : a0 = 4
  · have hf := it hf c5
    refine lv_tableIn (off := 87) (tgt := 88) hx hb dX0_tell_1 (by rw [c5]; decide) (by rw [c5]; decide) (by rw [c5]; rfl) (by decide) ?_
    refine lv_aload_n hx hb dX0_tell_88 rfl (lv_at hl 0 rfl) ?_
    refine va_get (D := D) (ci := 0) (v := .ref hs) (C := RX0) (T := TX0) (N := 9) hx hb hts inX0_tell_X0 hown hK hP 2 rfl rfl 0 (by decide) (hts (.fieldLink RX0 9 "BondDesk$Bond" "schedule" "LBondDesk$Schedule;") (by decide +kernel)) (fun _ h9 => h9) rfl dX0_tell_89 ?_
    refine va_get (D := D) (ci := 2) (v := .int (S 4)) (C := RX3) (T := TX3) (N := 9) hx hb hts inX0_tell_X3 hown hK hP 1 rfl rfl 4 (by decide) (hts (.fieldLink RX0 166 "BondDesk$Schedule" "way" "I") (by decide +kernel)) (fun _ h9 => h9) rfl dX0_tell_92 ?_
    exact W.iret hx hb hr (fun t ht _ => ⟨_, rfl, Option.some.inj hf, ht⟩) (fun q hq => absurd hq List.not_mem_nil) dX0_tell_95
  have hf := ie hf c5
  by_cases c6 : a0 = 5
  · have hf := it hf c6
    refine lv_tableIn (off := 95) (tgt := 96) hx hb dX0_tell_1 (by rw [c6]; decide) (by rw [c6]; decide) (by rw [c6]; rfl) (by decide) ?_
    refine lv_aload_n hx hb dX0_tell_96 rfl (lv_at hl 0 rfl) ?_
    refine va_get (D := D) (ci := 0) (v := .int (B 1)) (C := RX0) (T := TX0) (N := 9) hx hb hts inX0_tell_X0 hown hK hP 2 rfl rfl 1 (by decide) (hts (.fieldLink RX0 15 "BondDesk$Bond" "factor" "I") (by decide +kernel)) (fun _ h9 => h9) rfl dX0_tell_97 ?_
    exact W.iret hx hb hr (fun t ht _ => ⟨_, rfl, Option.some.inj hf, ht⟩) (fun q hq => absurd hq List.not_mem_nil) dX0_tell_100
  have hf := ie hf c6
  by_cases c7 : a0 = 6
  · have hf := it hf c7
    refine lv_tableIn (off := 100) (tgt := 101) hx hb dX0_tell_1 (by rw [c7]; decide) (by rw [c7]; decide) (by rw [c7]; rfl) (by decide) ?_
    refine lv_aload_n hx hb dX0_tell_101 rfl (lv_at hl 0 rfl) ?_
    obtain ⟨v8, hv8, hf⟩ := ob hf
    refine cSl (W.runV (As := []) (rest := []) ⟨hx, hb, hml, hown, hts⟩ (m_X0_face l D cI cJ cO ah ht hs hd B S T n ds v8 hv8) (cwV 0 hts gX0_tell_X0_face rfl rfl rfl (by decide +kernel) ⟨(Nat.le_of_ble_eq_true rfl), (Nat.le_of_ble_eq_true rfl)⟩) ⟨pw_blind, va_recv hK hP (ci := 0) (q0 := 2) rfl rfl, fun U hU hW => ⟨rfl, pw_at hZ va_S.rf hP hK hU hW (Or.inr rfl) [0, 1, 2] rfl⟩⟩ rfl rfl hl.1 rfl (lv_room (Nat.le_of_ble_eq_true rfl)) dX0_tell_102 ⟨(Nat.le_of_ble_eq_true rfl), (Nat.le_of_ble_eq_true rfl)⟩) ?_
    refine lv_l2i hx hb dX0_tell_105 rfl ?_
    exact W.iret hx hb hr (fun t ht _ => ⟨_, rfl, Option.some.inj hf, ht⟩) (fun q hq => absurd hq List.not_mem_nil) dX0_tell_106
  have hf := ie hf c7
  by_cases c9 : a0 = 7
  · have hf := it hf c9
    refine lv_tableIn (off := 106) (tgt := 107) hx hb dX0_tell_1 (by rw [c9]; decide) (by rw [c9]; decide) (by rw [c9]; rfl) (by decide) ?_
    refine lv_aload_n hx hb dX0_tell_107 rfl (lv_at hl 0 rfl) ?_
    refine va_get (D := D) (ci := 0) (v := .ref hs) (C := RX0) (T := TX0) (N := 9) hx hb hts inX0_tell_X0 hown hK hP 2 rfl rfl 0 (by decide) (hts (.fieldLink RX0 9 "BondDesk$Bond" "schedule" "LBondDesk$Schedule;") (by decide +kernel)) (fun _ h9 => h9) rfl dX0_tell_108 ?_
    refine va_get (D := D) (ci := 2) (v := .ref hd) (C := RX3) (T := TX3) (N := 9) hx hb hts inX0_tell_X3 hown hK hP 1 rfl rfl 6 (by decide) (hts (.fieldLink RX0 66 "BondDesk$Schedule" "dates" "[I") (by decide +kernel)) (fun _ h9 => h9) rfl dX0_tell_111 ?_
    refine va_alen (v := nI n) hx hb hK hP 0 0 rfl rfl rfl dX0_tell_114 ?_
    exact W.iret hx hb hr (fun t ht _ => ⟨_, rfl, Option.some.inj hf, ht⟩) (fun q hq => absurd hq List.not_mem_nil) dX0_tell_115
  have hf := ie hf c9
  by_cases c10 : a0 = 8
  · have hf := it hf c10
    refine lv_tableIn (off := 115) (tgt := 116) hx hb dX0_tell_1 (by rw [c10]; decide) (by rw [c10]; decide) (by rw [c10]; rfl) (by decide) ?_
    refine lv_aload_n hx hb dX0_tell_116 rfl (lv_at hl 0 rfl) ?_
    obtain ⟨v11, hv11, hf⟩ := ob hf
    refine cSz (W.runV (As := []) (rest := []) ⟨hx, hb, hml, hown, hts⟩ (m_X0_isGone l D cI cJ cO ah ht hs hd B S T n ds v11 hv11) (cwV 0 hts gX0_tell_X0_isGone rfl rfl rfl (by decide +kernel) ⟨(Nat.le_of_ble_eq_true rfl), (Nat.le_of_ble_eq_true rfl)⟩) ⟨pw_blind, va_recv hK hP (ci := 0) (q0 := 2) rfl rfl, fun U hU hW => ⟨rfl, pw_at hZ va_S.rf hP hK hU hW (Or.inr rfl) [0, 1, 2] rfl⟩⟩ rfl rfl hl.1 rfl (lv_room (Nat.le_of_ble_eq_true rfl)) dX0_tell_117 ⟨(Nat.le_of_ble_eq_true rfl), (Nat.le_of_ble_eq_true rfl)⟩) (fun zv11 => ?_)
    refine lv_if_eq (tgt := 127) hx hb dX0_tell_120 (by decide) (fun c12 => ?_) (fun c12 => ?_)
    · have hf := it hf c12
      refine lv_aload_n hx hb dX0_tell_127 rfl (lv_at hl 0 rfl) ?_
      refine va_get (D := D) (ci := 0) (v := .int (B 3)) (C := RX0) (T := TX0) (N := 9) hx hb hts inX0_tell_X0 hown hK hP 2 rfl rfl 3 (by decide) (hts (.fieldLink RX0 25 "BondDesk$Bond" "next" "I") (by decide +kernel)) (fun _ h9 => h9) rfl dX0_tell_128 ?_
      exact W.iret hx hb hr (fun t ht _ => ⟨_, rfl, Option.some.inj hf, ht⟩) (fun q hq => absurd hq List.not_mem_nil) dX0_tell_131
    · have hf := ie hf c12
      refine lv_iconst (v := (-1)) hx hb dX0_tell_123 (by decide) ?_
      refine lv_goto (tgt := 131) hx hb dX0_tell_124 (by decide) ?_
      exact W.iret hx hb hr (fun t ht _ => ⟨_, rfl, Option.some.inj hf, ht⟩) (fun q hq => absurd hq List.not_mem_nil) dX0_tell_131
  have hf := ie hf c10
  by_cases c13 : a0 = 9
  · have hf := it hf c13
    refine lv_tableIn (off := 131) (tgt := 132) hx hb dX0_tell_1 (by rw [c13]; decide) (by rw [c13]; decide) (by rw [c13]; rfl) (by decide) ?_
    refine lv_aload_n hx hb dX0_tell_132 rfl (lv_at hl 0 rfl) ?_
    refine va_get (D := D) (ci := 0) (v := .int (B 2)) (C := RX0) (T := TX0) (N := 9) hx hb hts inX0_tell_X0 hown hK hP 2 rfl rfl 2 (by decide) (hts (.fieldLink RX0 28 "BondDesk$Bond" "state" "I") (by decide +kernel)) (fun _ h9 => h9) rfl dX0_tell_133 ?_
    exact W.iret hx hb hr (fun t ht _ => ⟨_, rfl, Option.some.inj hf, ht⟩) (fun q hq => absurd hq List.not_mem_nil) dX0_tell_136
  have hf := ie hf c13
  have tc1 : ¬ a0.toInt = 0 := ne_ti c1
  have tc2 : ¬ a0.toInt = 1 := ne_ti c2
  have tc3 : ¬ a0.toInt = 2 := ne_ti c3
  have tc4 : ¬ a0.toInt = 3 := ne_ti c4
  have tc5 : ¬ a0.toInt = 4 := ne_ti c5
  have tc6 : ¬ a0.toInt = 5 := ne_ti c6
  have tc7 : ¬ a0.toInt = 6 := ne_ti c7
  have tc9 : ¬ a0.toInt = 7 := ne_ti c9
  have tc10 : ¬ a0.toInt = 8 := ne_ti c10
  have tc13 : ¬ a0.toInt = 9 := ne_ti c13
  refine lv_tableOut (tgt := 137) hx hb dX0_tell_1 (by omega) (by decide) ?_
  refine lv_aload_n hx hb dX0_tell_137 rfl (lv_at hl 0 rfl) ?_
  refine va_get (D := D) (ci := 0) (v := .int (B 4)) (C := RX0) (T := TX0) (N := 9) hx hb hts inX0_tell_X0 hown hK hP 2 rfl rfl 4 (by decide) (hts (.fieldLink RX0 147 "BondDesk$Bond" "pieces" "I") (by decide +kernel)) (fun _ h9 => h9) rfl dX0_tell_138 ?_
  exact W.iret hx hb hr (fun t ht _ => ⟨_, rfl, Option.some.inj hf, ht⟩) (fun q hq => absurd hq List.not_mem_nil) dX0_tell_141
theorem inX0_addTo_X0 : ∀ w ∈ wsX00, w ∈ wsX0_addTo := by decide +kernel
theorem inX0_addTo_X3 : ∀ w ∈ wsX30, w ∈ wsX0_addTo := by decide +kernel
set_option maxHeartbeats 4000000 in
set_option maxRecDepth 100000 in
theorem m_X0_addTo (l : Launch) (D : va_G) (cI cJ cO : ClassId) (ah : Nat) (ht : Nat) (hs : Nat) (hd : Nat) (B : Nat → Int32) (S : Nat → Int32) (T : Nat → Int64) (n : Nat) (ds : Nat → Int32) (a0 : Int64) (a1 : Int32) (N : Nat) (r : Int64) (hf : f_X0_addTo N B S T n ds a0 a1 = some r) : Met l yX0_addTo wsX0_addTo ({ frames := 5, cells := 0, slots := 0, locals := 114 }) (va_Pc [.ref ht, .long a0, .int a1] (pw D (ty3 cI cJ cO) (some ah) [eD cI hd n ds, eS hs hd S T, eB ht hs B])) (QSl r) 0 0 (fun _ => False) := by
  refine Met.ofW (cc := cX0_addTo) (maxL := 7) (ret := (some .long)) (by decide) rfl ?_
  intro p e s m args below meth c s₁ Bd hml hv
  obtain ⟨rfl, hZ, hP, hK⟩ := hv
  have hx := Bd.exec
  have hb := Bd.bytes
  have hr := Bd.returns
  have hts := atoms_spec (ws := wsX0_addTo) Bd.pre
  have hown : s.vm.findClass RX0 = some m.cls := findClass_of_methodNamed Bd.named
  have hlocks := Bd.notSynchronized
  have hl := lv_entry ([.ref ht, .long a0, .int a1]) (n := 7) (Nat.le_of_ble_eq_true rfl)
  rw [lg_entry_eq]
  generalize (lg_sl ([.ref ht, .long a0, .int a1]) ++ List.replicate (7 - (lg_sl ([.ref ht, .long a0, .int a1])).length) Slot.unset).toArray = ls at hl ⊢
  have hl : lv_has ls 7 [(0, .ref ht), (1, .long a0), (3, .int a1)] := hl
  unfold f_X0_addTo at hf
  refine lv_lload_n hx hb dX0_addTo_0 rfl (lv_at hl 1 rfl) ?_
  refine lv_lstore (lv' := [(4, .long a0), (0, .ref ht), (1, .long a0), (3, .int a1)]) hx hb dX0_addTo_1 hl (by decide) rfl (fun ls hl => ?_)
  refine lv_iconst (v := 0) hx hb dX0_addTo_3 (by decide) ?_
  refine lv_istore (lv' := [(6, .int 0), (4, .long a0), (0, .ref ht), (1, .long a0), (3, .int a1)]) hx hb dX0_addTo_4 hl (by decide) rfl (fun ls hl => ?_)
  obtain ⟨K3, hK3, hf⟩ := kx_s (P := fun k => f_X0_addTo_L6 B S n k N a0 0 = some r) hf
  have JK3 : ∀ (x4 : Int64) (ls : Array Slot), lv_has ls 7 [(0, .ref ht), (3, .int a1), (4, .long x4)] → K3 x4 = some r → W p l e (headSpec wsX0_addTo ({ frames := 5, cells := 0, slots := 0, locals := 114 })).room s m ([.ref ht, .long a0, .int a1] : List Value).toArray below meth c s.heap [] 0 0 (MQ below (QSl r) ([.ref ht, .long a0, .int a1] : List Value).toArray s 0 0 (fun _ => False)) (F0 m 35 ls []) := by
    intro x4 ls hl hf
    rw [hK3] at hf
    refine lv_lload hx hb dX0_addTo_35 (lv_at hl 2 rfl) ?_
    refine lv_ldc2 hx hb hown (hts (.constantLong RX0 169 (31)) (by decide +kernel)) dX0_addTo_37 ?_
    refine lv_lmul hx hb dX0_addTo_40 ?_
    refine lv_aload_n hx hb dX0_addTo_41 rfl (lv_at hl 0 rfl) ?_
    refine lv_iload_n hx hb dX0_addTo_42 rfl (lv_at hl 1 rfl) ?_
    obtain ⟨v10, hv10, hf⟩ := ob hf
    refine cSl (W.runV (As := [.int a1]) (rest := [.long (x4 * 31)]) ⟨hx, hb, hml, hown, hts⟩ (m_X0_accruedOn l D cI cJ cO ah ht hs hd B S T n ds a1 N v10 hv10) (cwV 1 hts gX0_addTo_X0_accruedOn rfl rfl rfl (by decide +kernel) ⟨(Nat.le_of_ble_eq_true rfl), (Nat.le_of_ble_eq_true rfl)⟩) ⟨pw_blind, va_recv hK hP (ci := 0) (q0 := 2) rfl rfl, fun U hU hW => ⟨rfl, pw_at hZ va_S.rf hP hK hU hW (Or.inr rfl) [0, 1, 2] rfl⟩⟩ rfl rfl hl.1 rfl (lv_room (Nat.le_of_ble_eq_true rfl)) dX0_addTo_43 ⟨(Nat.le_of_ble_eq_true rfl), (Nat.le_of_ble_eq_true rfl)⟩) ?_
    refine lv_ladd hx hb dX0_addTo_46 ?_
    refine lv_topl (fun x11 ex11 => ?_)
    have hf := bd_s hf ex11
    refine lv_lstore (lv' := [(4, .long x11), (0, .ref ht), (3, .int a1)]) hx hb dX0_addTo_47 hl (by decide) rfl (fun ls hl => ?_)
    refine lv_iconst (v := 0) hx hb dX0_addTo_49 (by decide) ?_
    refine lv_istore (lv' := [(6, .int 0), (4, .long x11), (0, .ref ht), (3, .int a1)]) hx hb dX0_addTo_50 hl (by decide) rfl (fun ls hl => ?_)
    have LP52 : ∀ (n14 : Nat) (x12 : Int64) (x13 : Int32) (ls : Array Slot), lv_has ls 7 [(0, .ref ht), (4, .long x12), (6, .int x13)] → f_X0_addTo_L52 n ds S T n14 x12 x13 = some r → W p l e (headSpec wsX0_addTo ({ frames := 5, cells := 0, slots := 0, locals := 114 })).room s m ([.ref ht, .long a0, .int a1] : List Value).toArray below meth c s.heap [] 0 0 (MQ below (QSl r) ([.ref ht, .long a0, .int a1] : List Value).toArray s 0 0 (fun _ => False)) (F0 m 52 ls []) := by
      intro n14
      induction n14 with
      | zero => intro x12 x13 ls hl hf; exact (no_s hf).elim
      | succ n14 ih14 =>
        intro x12 x13 ls hl hf
        rw [f_X0_addTo_L52] at hf
        refine lv_iload hx hb dX0_addTo_52 (lv_at hl 2 rfl) ?_
        refine lv_aload_n hx hb dX0_addTo_54 rfl (lv_at hl 0 rfl) ?_
        refine va_get (D := D) (ci := 0) (v := .ref hs) (C := RX0) (T := TX0) (N := 9) hx hb hts inX0_addTo_X0 hown hK hP 2 rfl rfl 0 (by decide) (hts (.fieldLink RX0 9 "BondDesk$Bond" "schedule" "LBondDesk$Schedule;") (by decide +kernel)) (fun _ h9 => h9) rfl dX0_addTo_55 ?_
        refine va_get (D := D) (ci := 2) (v := .ref hd) (C := RX3) (T := TX3) (N := 9) hx hb hts inX0_addTo_X3 hown hK hP 1 rfl rfl 6 (by decide) (hts (.fieldLink RX0 66 "BondDesk$Schedule" "dates" "[I") (by decide +kernel)) (fun _ h9 => h9) rfl dX0_addTo_58 ?_
        refine va_alen (v := nI n) hx hb hK hP 0 0 rfl rfl rfl dX0_addTo_61 ?_
        refine lv_icmp_ge (tgt := 112) hx hb dX0_addTo_62 (by decide) (fun c15 => ?_) (fun c15 => ?_)
        · have hf := it hf c15
          refine lv_lload hx hb dX0_addTo_112 (lv_at hl 1 rfl) ?_
          exact W.lret hx hb hr (fun t ht _ => ⟨_, rfl, Option.some.inj hf, ht⟩) (fun q hq => absurd hq List.not_mem_nil) dX0_addTo_114
        · have hf := ie hf c15
          refine lv_lload hx hb dX0_addTo_65 (lv_at hl 1 rfl) ?_
          refine lv_ldc2 hx hb hown (hts (.constantLong RX0 169 (31)) (by decide +kernel)) dX0_addTo_67 ?_
          refine lv_lmul hx hb dX0_addTo_70 ?_
          refine lv_aload_n hx hb dX0_addTo_71 rfl (lv_at hl 0 rfl) ?_
          refine va_get (D := D) (ci := 0) (v := .ref hs) (C := RX0) (T := TX0) (N := 9) hx hb hts inX0_addTo_X0 hown hK hP 2 rfl rfl 0 (by decide) (hts (.fieldLink RX0 9 "BondDesk$Bond" "schedule" "LBondDesk$Schedule;") (by decide +kernel)) (fun _ h9 => h9) rfl dX0_addTo_72 ?_
          refine va_get (D := D) (ci := 2) (v := .ref hd) (C := RX3) (T := TX3) (N := 9) hx hb hts inX0_addTo_X3 hown hK hP 1 rfl rfl 6 (by decide) (hts (.fieldLink RX0 66 "BondDesk$Schedule" "dates" "[I") (by decide +kernel)) (fun _ h9 => h9) rfl dX0_addTo_75 ?_
          refine lv_iload hx hb dX0_addTo_78 (lv_at hl 2 rfl) ?_
          obtain ⟨c16, hf⟩ := gd_s hf
          refine va_iald hx hb hK hP 0 0 rfl rfl c16 dX0_addTo_80 ?_
          refine lv_i2l hx hb dX0_addTo_81 rfl ?_
          refine lv_ladd hx hb dX0_addTo_82 ?_
          refine lv_topl (fun x17 ex17 => ?_)
          have hf := bd_s hf ex17
          refine lv_lstore (lv' := [(4, .long x17), (0, .ref ht), (6, .int x13)]) hx hb dX0_addTo_83 hl (by decide) rfl (fun ls hl => ?_)
          refine lv_lload hx hb dX0_addTo_85 (lv_at hl 0 rfl) ?_
          refine lv_ldc2 hx hb hown (hts (.constantLong RX0 169 (31)) (by decide +kernel)) dX0_addTo_87 ?_
          refine lv_lmul hx hb dX0_addTo_90 ?_
          refine lv_aload_n hx hb dX0_addTo_91 rfl (lv_at hl 1 rfl) ?_
          refine va_get (D := D) (ci := 0) (v := .ref hs) (C := RX0) (T := TX0) (N := 9) hx hb hts inX0_addTo_X0 hown hK hP 2 rfl rfl 0 (by decide) (hts (.fieldLink RX0 9 "BondDesk$Bond" "schedule" "LBondDesk$Schedule;") (by decide +kernel)) (fun _ h9 => h9) rfl dX0_addTo_92 ?_
          refine lv_iload hx hb dX0_addTo_95 (lv_at hl 2 rfl) ?_
          refine lv_ldc2 hx hb hown (hts (.constantLong RX0 50 (100000)) (by decide +kernel)) dX0_addTo_97 ?_
          obtain ⟨v18, hv18, hf⟩ := ob hf
          refine cSl (W.runV (As := [.int x13, .long 100000]) (rest := [.long (x17 * 31)]) ⟨hx, hb, hml, hown, hts⟩ (m_X3_couponFor l D cI cJ cO ah hs hd S T n ds x13 100000 v18 hv18) (cwV 2 hts gX0_addTo_X3_couponFor rfl rfl rfl (by decide +kernel) ⟨(Nat.le_of_ble_eq_true rfl), (Nat.le_of_ble_eq_true rfl)⟩) ⟨pw_blind, va_recv hK hP (ci := 2) (q0 := 1) rfl rfl, fun U hU hW => ⟨rfl, pw_at hZ va_S.rf hP hK hU hW (Or.inr rfl) [0, 1] rfl⟩⟩ rfl rfl hl.1 rfl (lv_room (Nat.le_of_ble_eq_true rfl)) dX0_addTo_100 ⟨(Nat.le_of_ble_eq_true rfl), (Nat.le_of_ble_eq_true rfl)⟩) ?_
          refine lv_ladd hx hb dX0_addTo_103 ?_
          refine lv_topl (fun x19 ex19 => ?_)
          have hf := bd_s hf ex19
          refine lv_lstore (lv' := [(4, .long x19), (0, .ref ht), (6, .int x13)]) hx hb dX0_addTo_104 hl (by decide) rfl (fun ls hl => ?_)
          obtain ⟨x20, ex20⟩ : ∃ y : Int32, y = x13 + 1 := ⟨_, rfl⟩
          have hf := bd_s hf ex20
          refine lv_iinc (v := x20) (lv' := [(6, .int x20), (4, .long x19), (0, .ref ht)]) hx hb dX0_addTo_106 hl (k := 2) rfl (by rw [ex20]; rfl) (by decide) rfl (fun ls hl => ?_)
          refine lv_goto (tgt := 52) hx hb dX0_addTo_109 (by decide) ?_
          exact ih14 x19 x20 ls (lv_sub hl [2, 1, 0] rfl) hf
    exact LP52 N x11 0 ls (lv_sub hl [2, 1, 0] rfl) hf
  have LP6 : ∀ (n5 : Nat) (x1 : Int64) (x2 : Int32) (ls : Array Slot), lv_has ls 7 [(0, .ref ht), (3, .int a1), (4, .long x1), (6, .int x2)] → f_X0_addTo_L6 B S n K3 n5 x1 x2 = some r → W p l e (headSpec wsX0_addTo ({ frames := 5, cells := 0, slots := 0, locals := 114 })).room s m ([.ref ht, .long a0, .int a1] : List Value).toArray below meth c s.heap [] 0 0 (MQ below (QSl r) ([.ref ht, .long a0, .int a1] : List Value).toArray s 0 0 (fun _ => False)) (F0 m 6 ls []) := by
    intro n5
    induction n5 with
    | zero => intro x1 x2 ls hl hf; exact (no_s hf).elim
    | succ n5 ih5 =>
      intro x1 x2 ls hl hf
      rw [f_X0_addTo_L6] at hf
      refine lv_iload hx hb dX0_addTo_6 (lv_at hl 3 rfl) ?_
      refine lv_bipush (v := 10) hx hb dX0_addTo_8 (by decide) ?_
      refine lv_icmp_gt (tgt := 35) hx hb dX0_addTo_10 (by decide) (fun c6 => ?_) (fun c6 => ?_)
      · have hf := it hf c6
        exact JK3 x1 ls (lv_sub hl [0, 1, 2] rfl) hf
      · have hf := ie hf c6
        refine lv_lload hx hb dX0_addTo_13 (lv_at hl 2 rfl) ?_
        refine lv_ldc2 hx hb hown (hts (.constantLong RX0 169 (31)) (by decide +kernel)) dX0_addTo_15 ?_
        refine lv_lmul hx hb dX0_addTo_18 ?_
        refine lv_aload_n hx hb dX0_addTo_19 rfl (lv_at hl 0 rfl) ?_
        refine lv_iload hx hb dX0_addTo_20 (lv_at hl 3 rfl) ?_
        obtain ⟨v7, hv7, hf⟩ := ob hf
        refine cSi (W.runV (As := [.int x2]) (rest := [.long (x1 * 31)]) ⟨hx, hb, hml, hown, hts⟩ (m_X0_tell l D cI cJ cO ah ht hs hd B S T n ds x2 v7 hv7) (cwV 1 hts gX0_addTo_X0_tell rfl rfl rfl (by decide +kernel) ⟨(Nat.le_of_ble_eq_true rfl), (Nat.le_of_ble_eq_true rfl)⟩) ⟨pw_blind, va_recv hK hP (ci := 0) (q0 := 2) rfl rfl, fun U hU hW => ⟨rfl, pw_at hZ va_S.rf hP hK hU hW (Or.inr rfl) [0, 1, 2] rfl⟩⟩ rfl rfl hl.1 rfl (lv_room (Nat.le_of_ble_eq_true rfl)) dX0_addTo_22 ⟨(Nat.le_of_ble_eq_true rfl), (Nat.le_of_ble_eq_true rfl)⟩) ?_
        refine lv_i2l hx hb dX0_addTo_25 rfl ?_
        refine lv_ladd hx hb dX0_addTo_26 ?_
        refine lv_topl (fun x8 ex8 => ?_)
        have hf := bd_s hf ex8
        refine lv_lstore (lv' := [(4, .long x8), (0, .ref ht), (3, .int a1), (6, .int x2)]) hx hb dX0_addTo_27 hl (by decide) rfl (fun ls hl => ?_)
        obtain ⟨x9, ex9⟩ : ∃ y : Int32, y = x2 + 1 := ⟨_, rfl⟩
        have hf := bd_s hf ex9
        refine lv_iinc (v := x9) (lv' := [(6, .int x9), (4, .long x8), (0, .ref ht), (3, .int a1)]) hx hb dX0_addTo_29 hl (k := 3) rfl (by rw [ex9]; rfl) (by decide) rfl (fun ls hl => ?_)
        refine lv_goto (tgt := 6) hx hb dX0_addTo_32 (by decide) ?_
        exact ih5 x8 x9 ls (lv_sub hl [2, 3, 1, 0] rfl) hf
  exact LP6 N a0 0 ls (lv_sub hl [2, 4, 1, 0] rfl) hf
