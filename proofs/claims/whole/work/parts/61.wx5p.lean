set_option maxHeartbeats 4000000 in
set_option maxRecDepth 100000 in
theorem m_X5_isIn (l : Launch) (D : va_G) (cI cJ cO : ClassId) (a0 : Int32) (a1 : Int32) (a2 : Int32) (r : Int32) (hf : f_X5_isIn a0 a1 a2 = some r) : Met l yX5_isIn wsX5_isIn ({ frames := 0, cells := 0, slots := 0, locals := 0 }) (va_Pc [.int a0, .int a1, .int a2] (pw D (ty3 cI cJ cO) none [])) (QSz r) 0 0 (fun _ => False) := by
  refine Met.ofW (cc := cX5_isIn) (maxL := 3) (ret := (some .boolean)) (by decide) rfl ?_
  intro p e s m args below meth c s₁ Bd hml hv
  obtain ⟨rfl, hZ, hP, hK⟩ := hv
  have hx := Bd.exec
  have hb := Bd.bytes
  have hr := Bd.returns
  have hts := atoms_spec (ws := wsX5_isIn) Bd.pre
  have hown : s.vm.findClass RX5 = some m.cls := findClass_of_methodNamed Bd.named
  have hlocks := Bd.notSynchronized
  have hl := lv_entry ([.int a0, .int a1, .int a2]) (n := 3) (Nat.le_of_ble_eq_true rfl)
  rw [lg_entry_eq]
  generalize (lg_sl ([.int a0, .int a1, .int a2]) ++ List.replicate (3 - (lg_sl ([.int a0, .int a1, .int a2])).length) Slot.unset).toArray = ls at hl ⊢
  have hl : lv_has ls 3 [(0, .int a0), (1, .int a1), (2, .int a2)] := hl
  unfold f_X5_isIn at hf
  refine lv_iload_n hx hb dX5_isIn_0 rfl (lv_at hl 0 rfl) ?_
  refine lv_iload_n hx hb dX5_isIn_1 rfl (lv_at hl 1 rfl) ?_
  refine lv_icmp_lt (tgt := 14) hx hb dX5_isIn_2 (by decide) (fun c1 => ?_) (fun c1 => ?_)
  · have hf := it hf c1
    refine lv_iconst (v := 0) hx hb dX5_isIn_14 (by decide) ?_
    exact W.zret hx hb hr (zn (Or.inl rfl)) (fun t ht _ => ⟨_, rfl, ⟨Option.some.inj hf, (Or.inl rfl)⟩, ht⟩) (fun q hq => absurd hq List.not_mem_nil) dX5_isIn_15
  · have hf := ie hf c1
    refine lv_iload_n hx hb dX5_isIn_5 rfl (lv_at hl 0 rfl) ?_
    refine lv_iload_n hx hb dX5_isIn_6 rfl (lv_at hl 2 rfl) ?_
    refine lv_icmp_gt (tgt := 14) hx hb dX5_isIn_7 (by decide) (fun c2 => ?_) (fun c2 => ?_)
    · have hf := it hf c2
      refine lv_iconst (v := 0) hx hb dX5_isIn_14 (by decide) ?_
      exact W.zret hx hb hr (zn (Or.inl rfl)) (fun t ht _ => ⟨_, rfl, ⟨Option.some.inj hf, (Or.inl rfl)⟩, ht⟩) (fun q hq => absurd hq List.not_mem_nil) dX5_isIn_15
    · have hf := ie hf c2
      refine lv_iconst (v := 1) hx hb dX5_isIn_10 (by decide) ?_
      refine lv_goto (tgt := 15) hx hb dX5_isIn_11 (by decide) ?_
      exact W.zret hx hb hr (zn (Or.inr rfl)) (fun t ht _ => ⟨_, rfl, ⟨Option.some.inj hf, (Or.inr rfl)⟩, ht⟩) (fun q hq => absurd hq List.not_mem_nil) dX5_isIn_15
set_option maxHeartbeats 4000000 in
set_option maxRecDepth 100000 in
theorem m_X5_length (l : Launch) (D : va_G) (cI cJ cO : ClassId) (a0 : Int32) (a1 : Int32) (r : Int32) (hf : f_X5_length a0 a1 = some r) : Met l yX5_length wsX5_length ({ frames := 0, cells := 0, slots := 0, locals := 0 }) (va_Pc [.int a0, .int a1] (pw D (ty3 cI cJ cO) none [])) (QSi r) 0 0 (fun _ => False) := by
  refine Met.ofW (cc := cX5_length) (maxL := 2) (ret := (some .int)) (by decide) rfl ?_
  intro p e s m args below meth c s₁ Bd hml hv
  obtain ⟨rfl, hZ, hP, hK⟩ := hv
  have hx := Bd.exec
  have hb := Bd.bytes
  have hr := Bd.returns
  have hts := atoms_spec (ws := wsX5_length) Bd.pre
  have hown : s.vm.findClass RX5 = some m.cls := findClass_of_methodNamed Bd.named
  have hlocks := Bd.notSynchronized
  have hl := lv_entry ([.int a0, .int a1]) (n := 2) (Nat.le_of_ble_eq_true rfl)
  rw [lg_entry_eq]
  generalize (lg_sl ([.int a0, .int a1]) ++ List.replicate (2 - (lg_sl ([.int a0, .int a1])).length) Slot.unset).toArray = ls at hl ⊢
  have hl : lv_has ls 2 [(0, .int a0), (1, .int a1)] := hl
  unfold f_X5_length at hf
  refine lv_iload_n hx hb dX5_length_0 rfl (lv_at hl 1 rfl) ?_
  refine lv_iconst (v := 2) hx hb dX5_length_1 (by decide) ?_
  refine lv_icmp_ne (tgt := 19) hx hb dX5_length_2 (by decide) (fun c1 => ?_) (fun c1 => ?_)
  · have hf := ie hf c1
    refine lv_iload_n hx hb dX5_length_19 rfl (lv_at hl 1 rfl) ?_
    refine lv_iconst (v := 4) hx hb dX5_length_20 (by decide) ?_
    refine lv_icmp_eq (tgt := 42) hx hb dX5_length_21 (by decide) (fun c2 => ?_) (fun c2 => ?_)
    · have hf := it hf c2
      refine lv_bipush (v := 30) hx hb dX5_length_42 (by decide) ?_
      refine lv_goto (tgt := 49) hx hb dX5_length_44 (by decide) ?_
      exact W.iret hx hb hr (fun t ht _ => ⟨_, rfl, Option.some.inj hf, ht⟩) (fun q hq => absurd hq List.not_mem_nil) dX5_length_49
    · have hf := ie hf c2
      refine lv_iload_n hx hb dX5_length_24 rfl (lv_at hl 1 rfl) ?_
      refine lv_bipush (v := 6) hx hb dX5_length_25 (by decide) ?_
      refine lv_icmp_eq (tgt := 42) hx hb dX5_length_27 (by decide) (fun c3 => ?_) (fun c3 => ?_)
      · have hf := it hf c3
        refine lv_bipush (v := 30) hx hb dX5_length_42 (by decide) ?_
        refine lv_goto (tgt := 49) hx hb dX5_length_44 (by decide) ?_
        exact W.iret hx hb hr (fun t ht _ => ⟨_, rfl, Option.some.inj hf, ht⟩) (fun q hq => absurd hq List.not_mem_nil) dX5_length_49
      · have hf := ie hf c3
        refine lv_iload_n hx hb dX5_length_30 rfl (lv_at hl 1 rfl) ?_
        refine lv_bipush (v := 9) hx hb dX5_length_31 (by decide) ?_
        refine lv_icmp_eq (tgt := 42) hx hb dX5_length_33 (by decide) (fun c4 => ?_) (fun c4 => ?_)
        · have hf := it hf c4
          refine lv_bipush (v := 30) hx hb dX5_length_42 (by decide) ?_
          refine lv_goto (tgt := 49) hx hb dX5_length_44 (by decide) ?_
          exact W.iret hx hb hr (fun t ht _ => ⟨_, rfl, Option.some.inj hf, ht⟩) (fun q hq => absurd hq List.not_mem_nil) dX5_length_49
        · have hf := ie hf c4
          refine lv_iload_n hx hb dX5_length_36 rfl (lv_at hl 1 rfl) ?_
          refine lv_bipush (v := 11) hx hb dX5_length_37 (by decide) ?_
          refine lv_icmp_ne (tgt := 47) hx hb dX5_length_39 (by decide) (fun c5 => ?_) (fun c5 => ?_)
          · have hf := ie hf c5
            refine lv_bipush (v := 31) hx hb dX5_length_47 (by decide) ?_
            exact W.iret hx hb hr (fun t ht _ => ⟨_, rfl, Option.some.inj hf, ht⟩) (fun q hq => absurd hq List.not_mem_nil) dX5_length_49
          · have hf := it hf c5
            refine lv_bipush (v := 30) hx hb dX5_length_42 (by decide) ?_
            refine lv_goto (tgt := 49) hx hb dX5_length_44 (by decide) ?_
            exact W.iret hx hb hr (fun t ht _ => ⟨_, rfl, Option.some.inj hf, ht⟩) (fun q hq => absurd hq List.not_mem_nil) dX5_length_49
  · have hf := it hf c1
    refine lv_iload_n hx hb dX5_length_5 rfl (lv_at hl 0 rfl) ?_
    refine lv_iconst (v := 4) hx hb dX5_length_6 (by decide) ?_
    refine lv_irem hx hb dX5_length_7 (by decide) ?_
    refine lv_if_ne (tgt := 16) hx hb dX5_length_8 (by decide) (fun c6 => ?_) (fun c6 => ?_)
    · have hf := ie hf c6
      refine lv_bipush (v := 28) hx hb dX5_length_16 (by decide) ?_
      exact W.iret hx hb hr (fun t ht _ => ⟨_, rfl, Option.some.inj hf, ht⟩) (fun q hq => absurd hq List.not_mem_nil) dX5_length_18
    · have hf := it hf c6
      refine lv_bipush (v := 29) hx hb dX5_length_11 (by decide) ?_
      refine lv_goto (tgt := 18) hx hb dX5_length_13 (by decide) ?_
      exact W.iret hx hb hr (fun t ht _ => ⟨_, rfl, Option.some.inj hf, ht⟩) (fun q hq => absurd hq List.not_mem_nil) dX5_length_18
set_option maxHeartbeats 4000000 in
set_option maxRecDepth 100000 in
theorem m_X5_isDate (l : Launch) (D : va_G) (cI cJ cO : ClassId) (a0 : Int32) (r : Int32) (hf : f_X5_isDate a0 = some r) : Met l yX5_isDate wsX5_isDate ({ frames := 1, cells := 0, slots := 0, locals := 22 }) (va_Pc [.int a0] (pw D (ty3 cI cJ cO) none [])) (QSz r) 0 0 (fun _ => False) := by
  refine Met.ofW (cc := cX5_isDate) (maxL := 2) (ret := (some .boolean)) (by decide) rfl ?_
  intro p e s m args below meth c s₁ Bd hml hv
  obtain ⟨rfl, hZ, hP, hK⟩ := hv
  have hx := Bd.exec
  have hb := Bd.bytes
  have hr := Bd.returns
  have hts := atoms_spec (ws := wsX5_isDate) Bd.pre
  have hown : s.vm.findClass RX5 = some m.cls := findClass_of_methodNamed Bd.named
  have hlocks := Bd.notSynchronized
  have hl := lv_entry ([.int a0]) (n := 2) (Nat.le_of_ble_eq_true rfl)
  rw [lg_entry_eq]
  generalize (lg_sl ([.int a0]) ++ List.replicate (2 - (lg_sl ([.int a0])).length) Slot.unset).toArray = ls at hl ⊢
  have hl : lv_has ls 2 [(0, .int a0)] := hl
  unfold f_X5_isDate at hf
  refine lv_iload_n hx hb dX5_isDate_0 rfl (lv_at hl 0 rfl) ?_
  refine lv_bipush (v := 100) hx hb dX5_isDate_1 (by decide) ?_
  refine lv_idiv hx hb dX5_isDate_3 (by decide) ?_
  refine lv_bipush (v := 100) hx hb dX5_isDate_4 (by decide) ?_
  refine lv_irem hx hb dX5_isDate_6 (by decide) ?_
  refine lv_topi (fun x1 ex1 => ?_)
  have hf := bd_s hf ex1
  refine lv_istore_n (lv' := [(1, .int x1), (0, .int a0)]) hx hb dX5_isDate_7 rfl hl (by decide) rfl (fun ls hl => ?_)
  refine lv_iload_n hx hb dX5_isDate_8 rfl (lv_at hl 1 rfl) ?_
  refine lv_ldc hx hb hown (hts (.constant RX5 44 (20160101)) (by decide +kernel)) dX5_isDate_9 ?_
  refine lv_ldc hx hb hown (hts (.constant RX5 45 (20661231)) (by decide +kernel)) dX5_isDate_11 ?_
  obtain ⟨v2, hv2, hf⟩ := ob hf
  refine cSz (W.runS (As := [.int a0, .int 20160101, .int 20661231]) (rest := []) ⟨hx, hb, hml, hown, hts⟩ (m_X5_isIn l D cI cJ cO a0 20160101 20661231 v2 hv2) (va_cwS 3 hts gX5_isDate_X5_isIn rfl rfl rfl (by decide +kernel) ⟨(Nat.le_of_ble_eq_true rfl), (Nat.le_of_ble_eq_true rfl)⟩) ⟨pw_blind, fun U hU hW => ⟨rfl, pw_at hZ va_S.rf hP hK hU hW (Or.inr rfl) [] rfl⟩⟩ rfl rfl hl.1 rfl (lv_room (Nat.le_of_ble_eq_true rfl)) dX5_isDate_13 ⟨(Nat.le_of_ble_eq_true rfl), (Nat.le_of_ble_eq_true rfl)⟩) (fun zv2 => ?_)
  refine lv_if_eq (tgt := 53) hx hb dX5_isDate_16 (by decide) (fun c3 => ?_) (fun c3 => ?_)
  · have hf := it hf c3
    refine lv_iconst (v := 0) hx hb dX5_isDate_53 (by decide) ?_
    exact W.zret hx hb hr (zn (Or.inl rfl)) (fun t ht _ => ⟨_, rfl, ⟨Option.some.inj hf, (Or.inl rfl)⟩, ht⟩) (fun q hq => absurd hq List.not_mem_nil) dX5_isDate_54
  · have hf := ie hf c3
    refine lv_iload_n hx hb dX5_isDate_19 rfl (lv_at hl 0 rfl) ?_
    refine lv_iconst (v := 1) hx hb dX5_isDate_20 (by decide) ?_
    refine lv_bipush (v := 12) hx hb dX5_isDate_21 (by decide) ?_
    obtain ⟨v4, hv4, hf⟩ := ob hf
    refine cSz (W.runS (As := [.int x1, .int 1, .int 12]) (rest := []) ⟨hx, hb, hml, hown, hts⟩ (m_X5_isIn l D cI cJ cO x1 1 12 v4 hv4) (va_cwS 3 hts gX5_isDate_X5_isIn rfl rfl rfl (by decide +kernel) ⟨(Nat.le_of_ble_eq_true rfl), (Nat.le_of_ble_eq_true rfl)⟩) ⟨pw_blind, fun U hU hW => ⟨rfl, pw_at hZ va_S.rf hP hK hU hW (Or.inr rfl) [] rfl⟩⟩ rfl rfl hl.1 rfl (lv_room (Nat.le_of_ble_eq_true rfl)) dX5_isDate_23 ⟨(Nat.le_of_ble_eq_true rfl), (Nat.le_of_ble_eq_true rfl)⟩) (fun zv4 => ?_)
    refine lv_if_eq (tgt := 53) hx hb dX5_isDate_26 (by decide) (fun c5 => ?_) (fun c5 => ?_)
    · have hf := it hf c5
      refine lv_iconst (v := 0) hx hb dX5_isDate_53 (by decide) ?_
      exact W.zret hx hb hr (zn (Or.inl rfl)) (fun t ht _ => ⟨_, rfl, ⟨Option.some.inj hf, (Or.inl rfl)⟩, ht⟩) (fun q hq => absurd hq List.not_mem_nil) dX5_isDate_54
    · have hf := ie hf c5
      refine lv_iload_n hx hb dX5_isDate_29 rfl (lv_at hl 1 rfl) ?_
      refine lv_bipush (v := 100) hx hb dX5_isDate_30 (by decide) ?_
      refine lv_irem hx hb dX5_isDate_32 (by decide) ?_
      refine lv_iconst (v := 1) hx hb dX5_isDate_33 (by decide) ?_
      refine lv_iload_n hx hb dX5_isDate_34 rfl (lv_at hl 1 rfl) ?_
      refine lv_sipush (v := 10000) hx hb dX5_isDate_35 (by decide) ?_
      refine lv_idiv hx hb dX5_isDate_38 (by decide) ?_
      refine lv_iload_n hx hb dX5_isDate_39 rfl (lv_at hl 0 rfl) ?_
      obtain ⟨v6, hv6, hf⟩ := ob hf
      refine cSi (W.runS (As := [.int (a0 / 10000), .int x1]) (rest := [.int 1, .int (a0 - a0 / 100 * 100)]) ⟨hx, hb, hml, hown, hts⟩ (m_X5_length l D cI cJ cO (a0 / 10000) x1 v6 hv6) (va_cwS 2 hts gX5_isDate_X5_length rfl rfl rfl (by decide +kernel) ⟨(Nat.le_of_ble_eq_true rfl), (Nat.le_of_ble_eq_true rfl)⟩) ⟨pw_blind, fun U hU hW => ⟨rfl, pw_at hZ va_S.rf hP hK hU hW (Or.inr rfl) [] rfl⟩⟩ rfl rfl hl.1 rfl (lv_room (Nat.le_of_ble_eq_true rfl)) dX5_isDate_40 ⟨(Nat.le_of_ble_eq_true rfl), (Nat.le_of_ble_eq_true rfl)⟩) ?_
      obtain ⟨v7, hv7, hf⟩ := ob hf
      refine cSz (W.runS (As := [.int (a0 - a0 / 100 * 100), .int 1, .int v6]) (rest := []) ⟨hx, hb, hml, hown, hts⟩ (m_X5_isIn l D cI cJ cO (a0 - a0 / 100 * 100) 1 v6 v7 hv7) (va_cwS 3 hts gX5_isDate_X5_isIn rfl rfl rfl (by decide +kernel) ⟨(Nat.le_of_ble_eq_true rfl), (Nat.le_of_ble_eq_true rfl)⟩) ⟨pw_blind, fun U hU hW => ⟨rfl, pw_at hZ va_S.rf hP hK hU hW (Or.inr rfl) [] rfl⟩⟩ rfl rfl hl.1 rfl (lv_room (Nat.le_of_ble_eq_true rfl)) dX5_isDate_43 ⟨(Nat.le_of_ble_eq_true rfl), (Nat.le_of_ble_eq_true rfl)⟩) (fun zv7 => ?_)
      refine lv_if_eq (tgt := 53) hx hb dX5_isDate_46 (by decide) (fun c8 => ?_) (fun c8 => ?_)
      · have hf := it hf c8
        refine lv_iconst (v := 0) hx hb dX5_isDate_53 (by decide) ?_
        exact W.zret hx hb hr (zn (Or.inl rfl)) (fun t ht _ => ⟨_, rfl, ⟨Option.some.inj hf, (Or.inl rfl)⟩, ht⟩) (fun q hq => absurd hq List.not_mem_nil) dX5_isDate_54
      · have hf := ie hf c8
        refine lv_iconst (v := 1) hx hb dX5_isDate_49 (by decide) ?_
        refine lv_goto (tgt := 54) hx hb dX5_isDate_50 (by decide) ?_
        exact W.zret hx hb hr (zn (Or.inr rfl)) (fun t ht _ => ⟨_, rfl, ⟨Option.some.inj hf, (Or.inr rfl)⟩, ht⟩) (fun q hq => absurd hq List.not_mem_nil) dX5_isDate_54
set_option maxHeartbeats 4000000 in
set_option maxRecDepth 100000 in
theorem m_X5_number (l : Launch) (D : va_G) (cI cJ cO : ClassId) (a0 : Int32) (N : Nat) (r : Int32) (hf : f_X5_number N a0 = some r) : Met l yX5_number wsX5_number ({ frames := 1, cells := 0, slots := 0, locals := 21 }) (va_Pc [.int a0] (pw D (ty3 cI cJ cO) none [])) (QSi r) 0 0 (fun _ => False) := by
  refine Met.ofW (cc := cX5_number) (maxL := 4) (ret := (some .int)) (by decide) rfl ?_
  intro p e s m args below meth c s₁ Bd hml hv
  obtain ⟨rfl, hZ, hP, hK⟩ := hv
  have hx := Bd.exec
  have hb := Bd.bytes
  have hr := Bd.returns
  have hts := atoms_spec (ws := wsX5_number) Bd.pre
  have hown : s.vm.findClass RX5 = some m.cls := findClass_of_methodNamed Bd.named
  have hlocks := Bd.notSynchronized
  have hl := lv_entry ([.int a0]) (n := 4) (Nat.le_of_ble_eq_true rfl)
  rw [lg_entry_eq]
  generalize (lg_sl ([.int a0]) ++ List.replicate (4 - (lg_sl ([.int a0])).length) Slot.unset).toArray = ls at hl ⊢
  have hl : lv_has ls 4 [(0, .int a0)] := hl
  unfold f_X5_number at hf
  refine lv_iload_n hx hb dX5_number_0 rfl (lv_at hl 0 rfl) ?_
  refine lv_sipush (v := 10000) hx hb dX5_number_1 (by decide) ?_
  refine lv_idiv hx hb dX5_number_4 (by decide) ?_
  refine lv_sipush (v := 2016) hx hb dX5_number_5 (by decide) ?_
  refine lv_isub hx hb dX5_number_8 ?_
  refine lv_topi (fun x1 ex1 => ?_)
  have hf := bd_s hf ex1
  refine lv_istore_n (lv' := [(1, .int x1), (0, .int a0)]) hx hb dX5_number_9 rfl hl (by decide) rfl (fun ls hl => ?_)
  refine lv_sipush (v := 365) hx hb dX5_number_10 (by decide) ?_
  refine lv_iload_n hx hb dX5_number_13 rfl (lv_at hl 0 rfl) ?_
  refine lv_imul hx hb dX5_number_14 ?_
  refine lv_iload_n hx hb dX5_number_15 rfl (lv_at hl 0 rfl) ?_
  refine lv_iconst (v := 3) hx hb dX5_number_16 (by decide) ?_
  refine lv_iadd hx hb dX5_number_17 ?_
  refine lv_iconst (v := 4) hx hb dX5_number_18 (by decide) ?_
  refine lv_idiv hx hb dX5_number_19 (by decide) ?_
  refine lv_iadd hx hb dX5_number_20 ?_
  refine lv_iload_n hx hb dX5_number_21 rfl (lv_at hl 1 rfl) ?_
  refine lv_bipush (v := 100) hx hb dX5_number_22 (by decide) ?_
  refine lv_irem hx hb dX5_number_24 (by decide) ?_
  refine lv_iadd hx hb dX5_number_25 ?_
  refine lv_iconst (v := 1) hx hb dX5_number_26 (by decide) ?_
  refine lv_isub hx hb dX5_number_27 ?_
  refine lv_topi (fun x2 ex2 => ?_)
  have hf := bd_s hf ex2
  refine lv_istore_n (lv' := [(2, .int x2), (1, .int x1), (0, .int a0)]) hx hb dX5_number_28 rfl hl (by decide) rfl (fun ls hl => ?_)
  refine lv_iconst (v := 1) hx hb dX5_number_29 (by decide) ?_
  refine lv_istore_n (lv' := [(3, .int 1), (2, .int x2), (1, .int x1), (0, .int a0)]) hx hb dX5_number_30 rfl hl (by decide) rfl (fun ls hl => ?_)
  have LP31 : ∀ (n5 : Nat) (x3 : Int32) (x4 : Int32) (ls : Array Slot), lv_has ls 4 [(0, .int a0), (1, .int x1), (2, .int x3), (3, .int x4)] → f_X5_number_L31 a0 x1 n5 x3 x4 = some r → W p l e (headSpec wsX5_number ({ frames := 1, cells := 0, slots := 0, locals := 21 })).room s m ([.int a0] : List Value).toArray below meth c s.heap [] 0 0 (MQ below (QSi r) ([.int a0] : List Value).toArray s 0 0 (fun _ => False)) (F0 m 31 ls []) := by
    intro n5
    induction n5 with
    | zero => intro x3 x4 ls hl hf; exact (no_s hf).elim
    | succ n5 ih5 =>
      intro x3 x4 ls hl hf
      rw [f_X5_number_L31] at hf
      refine lv_iload_n hx hb dX5_number_31 rfl (lv_at hl 3 rfl) ?_
      refine lv_iload_n hx hb dX5_number_32 rfl (lv_at hl 0 rfl) ?_
      refine lv_bipush (v := 100) hx hb dX5_number_33 (by decide) ?_
      refine lv_idiv hx hb dX5_number_35 (by decide) ?_
      refine lv_bipush (v := 100) hx hb dX5_number_36 (by decide) ?_
      refine lv_irem hx hb dX5_number_38 (by decide) ?_
      refine lv_icmp_ge (tgt := 60) hx hb dX5_number_39 (by decide) (fun c6 => ?_) (fun c6 => ?_)
      · have hf := it hf c6
        refine lv_iload_n hx hb dX5_number_60 rfl (lv_at hl 2 rfl) ?_
        exact W.iret hx hb hr (fun t ht _ => ⟨_, rfl, Option.some.inj hf, ht⟩) (fun q hq => absurd hq List.not_mem_nil) dX5_number_61
      · have hf := ie hf c6
        refine lv_iload_n hx hb dX5_number_42 rfl (lv_at hl 2 rfl) ?_
        refine lv_iload_n hx hb dX5_number_43 rfl (lv_at hl 1 rfl) ?_
        refine lv_sipush (v := 2016) hx hb dX5_number_44 (by decide) ?_
        refine lv_iadd hx hb dX5_number_47 ?_
        refine lv_iload_n hx hb dX5_number_48 rfl (lv_at hl 3 rfl) ?_
        obtain ⟨v7, hv7, hf⟩ := ob hf
        refine cSi (W.runS (As := [.int (x1 + 2016), .int x4]) (rest := [.int x3]) ⟨hx, hb, hml, hown, hts⟩ (m_X5_length l D cI cJ cO (x1 + 2016) x4 v7 hv7) (va_cwS 2 hts gX5_number_X5_length rfl rfl rfl (by decide +kernel) ⟨(Nat.le_of_ble_eq_true rfl), (Nat.le_of_ble_eq_true rfl)⟩) ⟨pw_blind, fun U hU hW => ⟨rfl, pw_at hZ va_S.rf hP hK hU hW (Or.inr rfl) [] rfl⟩⟩ rfl rfl hl.1 rfl (lv_room (Nat.le_of_ble_eq_true rfl)) dX5_number_49 ⟨(Nat.le_of_ble_eq_true rfl), (Nat.le_of_ble_eq_true rfl)⟩) ?_
        refine lv_iadd hx hb dX5_number_52 ?_
        refine lv_topi (fun x8 ex8 => ?_)
        have hf := bd_s hf ex8
        refine lv_istore_n (lv' := [(2, .int x8), (0, .int a0), (1, .int x1), (3, .int x4)]) hx hb dX5_number_53 rfl hl (by decide) rfl (fun ls hl => ?_)
        obtain ⟨x9, ex9⟩ : ∃ y : Int32, y = x4 + 1 := ⟨_, rfl⟩
        have hf := bd_s hf ex9
        refine lv_iinc (v := x9) (lv' := [(3, .int x9), (2, .int x8), (0, .int a0), (1, .int x1)]) hx hb dX5_number_54 hl (k := 3) rfl (by rw [ex9]; rfl) (by decide) rfl (fun ls hl => ?_)
        refine lv_goto (tgt := 31) hx hb dX5_number_57 (by decide) ?_
        exact ih5 x8 x9 ls (lv_sub hl [2, 3, 1, 0] rfl) hf
  exact LP31 N x2 1 ls (lv_sub hl [3, 2, 1, 0] rfl) hf
set_option maxHeartbeats 4000000 in
set_option maxRecDepth 100000 in
theorem m_X5_date (l : Launch) (D : va_G) (cI cJ cO : ClassId) (a0 : Int32) (N : Nat) (r : Int32) (hf : f_X5_date N a0 = some r) : Met l yX5_date wsX5_date ({ frames := 1, cells := 0, slots := 0, locals := 21 }) (va_Pc [.int a0] (pw D (ty3 cI cJ cO) none [])) (QSi r) 0 0 (fun _ => False) := by
  refine Met.ofW (cc := cX5_date) (maxL := 4) (ret := (some .int)) (by decide) rfl ?_
  intro p e s m args below meth c s₁ Bd hml hv
  obtain ⟨rfl, hZ, hP, hK⟩ := hv
  have hx := Bd.exec
  have hb := Bd.bytes
  have hr := Bd.returns
  have hts := atoms_spec (ws := wsX5_date) Bd.pre
  have hown : s.vm.findClass RX5 = some m.cls := findClass_of_methodNamed Bd.named
  have hlocks := Bd.notSynchronized
  have hl := lv_entry ([.int a0]) (n := 4) (Nat.le_of_ble_eq_true rfl)
  rw [lg_entry_eq]
  generalize (lg_sl ([.int a0]) ++ List.replicate (4 - (lg_sl ([.int a0])).length) Slot.unset).toArray = ls at hl ⊢
  have hl : lv_has ls 4 [(0, .int a0)] := hl
  unfold f_X5_date at hf
  refine lv_iload_n hx hb dX5_date_0 rfl (lv_at hl 0 rfl) ?_
  refine lv_sipush (v := 366) hx hb dX5_date_1 (by decide) ?_
  refine lv_idiv hx hb dX5_date_4 (by decide) ?_
  refine lv_topi (fun x1 ex1 => ?_)
  have hf := bd_s hf ex1
  refine lv_istore_n (lv' := [(1, .int x1), (0, .int a0)]) hx hb dX5_date_5 rfl hl (by decide) rfl (fun ls hl => ?_)
  obtain ⟨K3, hK3, hf⟩ := kx_s (P := fun k => f_X5_date_L6 a0 k N x1 = some r) hf
  have JK3 : ∀ (x4 : Int32) (ls : Array Slot), lv_has ls 4 [(0, .int a0), (1, .int x4)] → K3 x4 = some r → W p l e (headSpec wsX5_date ({ frames := 1, cells := 0, slots := 0, locals := 21 })).room s m ([.int a0] : List Value).toArray below meth c s.heap [] 0 0 (MQ below (QSi r) ([.int a0] : List Value).toArray s 0 0 (fun _ => False)) (F0 m 29 ls []) := by
    intro x4 ls hl hf
    rw [hK3] at hf
    refine lv_iload_n hx hb dX5_date_29 rfl (lv_at hl 0 rfl) ?_
    refine lv_sipush (v := 365) hx hb dX5_date_30 (by decide) ?_
    refine lv_iload_n hx hb dX5_date_33 rfl (lv_at hl 1 rfl) ?_
    refine lv_imul hx hb dX5_date_34 ?_
    refine lv_isub hx hb dX5_date_35 ?_
    refine lv_iload_n hx hb dX5_date_36 rfl (lv_at hl 1 rfl) ?_
    refine lv_iconst (v := 3) hx hb dX5_date_37 (by decide) ?_
    refine lv_iadd hx hb dX5_date_38 ?_
    refine lv_iconst (v := 4) hx hb dX5_date_39 (by decide) ?_
    refine lv_idiv hx hb dX5_date_40 (by decide) ?_
    refine lv_isub hx hb dX5_date_41 ?_
    refine lv_topi (fun x8 ex8 => ?_)
    have hf := bd_s hf ex8
    refine lv_istore_n (lv' := [(2, .int x8), (0, .int a0), (1, .int x4)]) hx hb dX5_date_42 rfl hl (by decide) rfl (fun ls hl => ?_)
    refine lv_iconst (v := 1) hx hb dX5_date_43 (by decide) ?_
    refine lv_istore_n (lv' := [(3, .int 1), (2, .int x8), (0, .int a0), (1, .int x4)]) hx hb dX5_date_44 rfl hl (by decide) rfl (fun ls hl => ?_)
    obtain ⟨K11, hK11, hf⟩ := kx_s (P := fun k => f_X5_date_L45 x4 k N x8 1 = some r) hf
    have JK11 : ∀ (x12 : Int32) (x13 : Int32) (ls : Array Slot), lv_has ls 4 [(1, .int x4), (2, .int x12), (3, .int x13)] → K11 x12 x13 = some r → W p l e (headSpec wsX5_date ({ frames := 1, cells := 0, slots := 0, locals := 21 })).room s m ([.int a0] : List Value).toArray below meth c s.heap [] 0 0 (MQ below (QSi r) ([.int a0] : List Value).toArray s 0 0 (fun _ => False)) (F0 m 76 ls []) := by
      intro x12 x13 ls hl hf
      rw [hK11] at hf
      refine lv_sipush (v := 10000) hx hb dX5_date_76 (by decide) ?_
      refine lv_iload_n hx hb dX5_date_79 rfl (lv_at hl 0 rfl) ?_
      refine lv_sipush (v := 2016) hx hb dX5_date_80 (by decide) ?_
      refine lv_iadd hx hb dX5_date_83 ?_
      refine lv_imul hx hb dX5_date_84 ?_
      refine lv_bipush (v := 100) hx hb dX5_date_85 (by decide) ?_
      refine lv_iload_n hx hb dX5_date_87 rfl (lv_at hl 2 rfl) ?_
      refine lv_imul hx hb dX5_date_88 ?_
      refine lv_iadd hx hb dX5_date_89 ?_
      refine lv_iload_n hx hb dX5_date_90 rfl (lv_at hl 1 rfl) ?_
      refine lv_iadd hx hb dX5_date_91 ?_
      refine lv_iconst (v := 1) hx hb dX5_date_92 (by decide) ?_
      refine lv_iadd hx hb dX5_date_93 ?_
      exact W.iret hx hb hr (fun t ht _ => ⟨_, rfl, Option.some.inj hf, ht⟩) (fun q hq => absurd hq List.not_mem_nil) dX5_date_94
    have LP45 : ∀ (n14 : Nat) (x9 : Int32) (x10 : Int32) (ls : Array Slot), lv_has ls 4 [(1, .int x4), (2, .int x9), (3, .int x10)] → f_X5_date_L45 x4 K11 n14 x9 x10 = some r → W p l e (headSpec wsX5_date ({ frames := 1, cells := 0, slots := 0, locals := 21 })).room s m ([.int a0] : List Value).toArray below meth c s.heap [] 0 0 (MQ below (QSi r) ([.int a0] : List Value).toArray s 0 0 (fun _ => False)) (F0 m 45 ls []) := by
      intro n14
      induction n14 with
      | zero => intro x9 x10 ls hl hf; exact (no_s hf).elim
      | succ n14 ih14 =>
        intro x9 x10 ls hl hf
        rw [f_X5_date_L45] at hf
        refine lv_iload_n hx hb dX5_date_45 rfl (lv_at hl 1 rfl) ?_
        refine lv_iload_n hx hb dX5_date_46 rfl (lv_at hl 0 rfl) ?_
        refine lv_sipush (v := 2016) hx hb dX5_date_47 (by decide) ?_
        refine lv_iadd hx hb dX5_date_50 ?_
        refine lv_iload_n hx hb dX5_date_51 rfl (lv_at hl 2 rfl) ?_
        obtain ⟨v15, hv15, hf⟩ := ob hf
        refine cSi (W.runS (As := [.int (x4 + 2016), .int x10]) (rest := [.int x9]) ⟨hx, hb, hml, hown, hts⟩ (m_X5_length l D cI cJ cO (x4 + 2016) x10 v15 hv15) (va_cwS 2 hts gX5_date_X5_length rfl rfl rfl (by decide +kernel) ⟨(Nat.le_of_ble_eq_true rfl), (Nat.le_of_ble_eq_true rfl)⟩) ⟨pw_blind, fun U hU hW => ⟨rfl, pw_at hZ va_S.rf hP hK hU hW (Or.inr rfl) [] rfl⟩⟩ rfl rfl hl.1 rfl (lv_room (Nat.le_of_ble_eq_true rfl)) dX5_date_52 ⟨(Nat.le_of_ble_eq_true rfl), (Nat.le_of_ble_eq_true rfl)⟩) ?_
        refine lv_icmp_lt (tgt := 76) hx hb dX5_date_55 (by decide) (fun c16 => ?_) (fun c16 => ?_)
        · have hf := it hf c16
          exact JK11 x9 x10 ls (lv_sub hl [0, 1, 2] rfl) hf
        · have hf := ie hf c16
          refine lv_iload_n hx hb dX5_date_58 rfl (lv_at hl 1 rfl) ?_
          refine lv_iload_n hx hb dX5_date_59 rfl (lv_at hl 0 rfl) ?_
          refine lv_sipush (v := 2016) hx hb dX5_date_60 (by decide) ?_
          refine lv_iadd hx hb dX5_date_63 ?_
          refine lv_iload_n hx hb dX5_date_64 rfl (lv_at hl 2 rfl) ?_
          obtain ⟨v17, hv17, hf⟩ := ob hf
          refine cSi (W.runS (As := [.int (x4 + 2016), .int x10]) (rest := [.int x9]) ⟨hx, hb, hml, hown, hts⟩ (m_X5_length l D cI cJ cO (x4 + 2016) x10 v17 hv17) (va_cwS 2 hts gX5_date_X5_length rfl rfl rfl (by decide +kernel) ⟨(Nat.le_of_ble_eq_true rfl), (Nat.le_of_ble_eq_true rfl)⟩) ⟨pw_blind, fun U hU hW => ⟨rfl, pw_at hZ va_S.rf hP hK hU hW (Or.inr rfl) [] rfl⟩⟩ rfl rfl hl.1 rfl (lv_room (Nat.le_of_ble_eq_true rfl)) dX5_date_65 ⟨(Nat.le_of_ble_eq_true rfl), (Nat.le_of_ble_eq_true rfl)⟩) ?_
          refine lv_isub hx hb dX5_date_68 ?_
          refine lv_topi (fun x18 ex18 => ?_)
          have hf := bd_s hf ex18
          refine lv_istore_n (lv' := [(2, .int x18), (1, .int x4), (3, .int x10)]) hx hb dX5_date_69 rfl hl (by decide) rfl (fun ls hl => ?_)
          obtain ⟨x19, ex19⟩ : ∃ y : Int32, y = x10 + 1 := ⟨_, rfl⟩
          have hf := bd_s hf ex19
          refine lv_iinc (v := x19) (lv' := [(3, .int x19), (2, .int x18), (1, .int x4)]) hx hb dX5_date_70 hl (k := 2) rfl (by rw [ex19]; rfl) (by decide) rfl (fun ls hl => ?_)
          refine lv_goto (tgt := 45) hx hb dX5_date_73 (by decide) ?_
          exact ih14 x18 x19 ls (lv_sub hl [2, 1, 0] rfl) hf
    exact LP45 N x8 1 ls (lv_sub hl [3, 1, 0] rfl) hf
  have LP6 : ∀ (n5 : Nat) (x2 : Int32) (ls : Array Slot), lv_has ls 4 [(0, .int a0), (1, .int x2)] → f_X5_date_L6 a0 K3 n5 x2 = some r → W p l e (headSpec wsX5_date ({ frames := 1, cells := 0, slots := 0, locals := 21 })).room s m ([.int a0] : List Value).toArray below meth c s.heap [] 0 0 (MQ below (QSi r) ([.int a0] : List Value).toArray s 0 0 (fun _ => False)) (F0 m 6 ls []) := by
    intro n5
    induction n5 with
    | zero => intro x2 ls hl hf; exact (no_s hf).elim
    | succ n5 ih5 =>
      intro x2 ls hl hf
      rw [f_X5_date_L6] at hf
      refine lv_sipush (v := 365) hx hb dX5_date_6 (by decide) ?_
      refine lv_iload_n hx hb dX5_date_9 rfl (lv_at hl 1 rfl) ?_
      refine lv_iconst (v := 1) hx hb dX5_date_10 (by decide) ?_
      refine lv_iadd hx hb dX5_date_11 ?_
      refine lv_imul hx hb dX5_date_12 ?_
      refine lv_iload_n hx hb dX5_date_13 rfl (lv_at hl 1 rfl) ?_
      refine lv_iconst (v := 4) hx hb dX5_date_14 (by decide) ?_
      refine lv_iadd hx hb dX5_date_15 ?_
      refine lv_iconst (v := 4) hx hb dX5_date_16 (by decide) ?_
      refine lv_idiv hx hb dX5_date_17 (by decide) ?_
      refine lv_iadd hx hb dX5_date_18 ?_
      refine lv_iload_n hx hb dX5_date_19 rfl (lv_at hl 0 rfl) ?_
      refine lv_icmp_gt (tgt := 29) hx hb dX5_date_20 (by decide) (fun c6 => ?_) (fun c6 => ?_)
      · have hf := it hf c6
        exact JK3 x2 ls (lv_sub hl [0, 1] rfl) hf
      · have hf := ie hf c6
        obtain ⟨x7, ex7⟩ : ∃ y : Int32, y = x2 + 1 := ⟨_, rfl⟩
        have hf := bd_s hf ex7
        refine lv_iinc (v := x7) (lv' := [(1, .int x7), (0, .int a0)]) hx hb dX5_date_23 hl (k := 1) rfl (by rw [ex7]; rfl) (by decide) rfl (fun ls hl => ?_)
        refine lv_goto (tgt := 6) hx hb dX5_date_26 (by decide) ?_
        exact ih5 x7 ls (lv_sub hl [1, 0] rfl) hf
  exact LP6 N x1 ls (lv_sub hl [1, 0] rfl) hf
set_option maxHeartbeats 4000000 in
set_option maxRecDepth 100000 in
theorem m_X5_weekday (l : Launch) (D : va_G) (cI cJ cO : ClassId) (a0 : Int32) (a1 : Int32) (r : Int32) (hf : f_X5_weekday a0 a1 = some r) : Met l yX5_weekday wsX5_weekday ({ frames := 0, cells := 0, slots := 0, locals := 0 }) (va_Pc [.int a0, .int a1] (pw D (ty3 cI cJ cO) none [])) (QSi r) 0 0 (fun _ => False) := by
  refine Met.ofW (cc := cX5_weekday) (maxL := 2) (ret := (some .int)) (by decide) rfl ?_
  intro p e s m args below meth c s₁ Bd hml hv
  obtain ⟨rfl, hZ, hP, hK⟩ := hv
  have hx := Bd.exec
  have hb := Bd.bytes
  have hr := Bd.returns
  have hts := atoms_spec (ws := wsX5_weekday) Bd.pre
  have hown : s.vm.findClass RX5 = some m.cls := findClass_of_methodNamed Bd.named
  have hlocks := Bd.notSynchronized
  have hl := lv_entry ([.int a0, .int a1]) (n := 2) (Nat.le_of_ble_eq_true rfl)
  rw [lg_entry_eq]
  generalize (lg_sl ([.int a0, .int a1]) ++ List.replicate (2 - (lg_sl ([.int a0, .int a1])).length) Slot.unset).toArray = ls at hl ⊢
  have hl : lv_has ls 2 [(0, .int a0), (1, .int a1)] := hl
  unfold f_X5_weekday at hf
  refine lv_iload_n hx hb dX5_weekday_0 rfl (lv_at hl 0 rfl) ?_
  refine lv_iload_n hx hb dX5_weekday_1 rfl (lv_at hl 1 rfl) ?_
  refine lv_iadd hx hb dX5_weekday_2 ?_
  refine lv_bipush (v := 7) hx hb dX5_weekday_3 (by decide) ?_
  refine lv_irem hx hb dX5_weekday_5 (by decide) ?_
  exact W.iret hx hb hr (fun t ht _ => ⟨_, rfl, Option.some.inj hf, ht⟩) (fun q hq => absurd hq List.not_mem_nil) dX5_weekday_6
theorem inX5_isWorking_X5 : ∀ w ∈ wsX50, w ∈ wsX5_isWorking := by decide +kernel
set_option maxHeartbeats 4000000 in
set_option maxRecDepth 100000 in
theorem m_X5_isWorking (l : Launch) (D : va_G) (cI cJ cO : ClassId) (hm : Nat) (mh : Nat) (mo : Nat) (my : Nat) (mp : Nat) (M : Nat → Int32) (mc : Int64) (mhol : Nat → Int32) (mof : Nat → Int32) (mdy : Nat → Int32) (mpd : Nat → Int64) (a0 : Int32) (N : Nat) (r : Int32) (hf : f_X5_isWorking N M mhol a0 = some r) : Met l yX5_isWorking wsX5_isWorking ({ frames := 1, cells := 0, slots := 0, locals := 21 }) (va_Pc [.ref hm, .int a0] (pw D (ty3 cI cJ cO) none [eM hm mh mo my mp M mc, eH cI mh mhol, eO cI mo mof, eY cI my mdy, eP cJ mp mpd])) (QSz r) 0 0 (fun _ => False) := by
  refine Met.ofW (cc := cX5_isWorking) (maxL := 4) (ret := (some .boolean)) (by decide) rfl ?_
  intro p e s m args below meth c s₁ Bd hml hv
  obtain ⟨rfl, hZ, hP, hK⟩ := hv
  have hx := Bd.exec
  have hb := Bd.bytes
  have hr := Bd.returns
  have hts := atoms_spec (ws := wsX5_isWorking) Bd.pre
  have hown : s.vm.findClass RX5 = some m.cls := findClass_of_methodNamed Bd.named
  have hlocks := Bd.notSynchronized
  have hl := lv_entry ([.ref hm, .int a0]) (n := 4) (Nat.le_of_ble_eq_true rfl)
  rw [lg_entry_eq]
  generalize (lg_sl ([.ref hm, .int a0]) ++ List.replicate (4 - (lg_sl ([.ref hm, .int a0])).length) Slot.unset).toArray = ls at hl ⊢
  have hl : lv_has ls 4 [(0, .ref hm), (1, .int a0)] := hl
  unfold f_X5_isWorking at hf
  refine lv_iload_n hx hb dX5_isWorking_0 rfl (lv_at hl 1 rfl) ?_
  refine lv_iconst (v := 4) hx hb dX5_isWorking_1 (by decide) ?_
  obtain ⟨v1, hv1, hf⟩ := ob hf
  refine cSi (W.runS (As := [.int a0, .int 4]) (rest := []) ⟨hx, hb, hml, hown, hts⟩ (m_X5_weekday l D cI cJ cO a0 4 v1 hv1) (va_cwS 2 hts gX5_isWorking_X5_weekday rfl rfl rfl (by decide +kernel) ⟨(Nat.le_of_ble_eq_true rfl), (Nat.le_of_ble_eq_true rfl)⟩) ⟨pw_blind, fun U hU hW => ⟨rfl, pw_at hZ va_S.rf hP hK hU hW (Or.inr rfl) [] rfl⟩⟩ rfl rfl hl.1 rfl (lv_room (Nat.le_of_ble_eq_true rfl)) dX5_isWorking_2 ⟨(Nat.le_of_ble_eq_true rfl), (Nat.le_of_ble_eq_true rfl)⟩) ?_
  refine lv_iconst (v := 5) hx hb dX5_isWorking_5 (by decide) ?_
  obtain ⟨K2, hK2, hf⟩ := jn_s hf
  have JK2 : ∀ (x3 : Int32) (ls : Array Slot), lv_has ls 4 [(0, .ref hm), (1, .int a0)] → K2 x3 = some r → W p l e (headSpec wsX5_isWorking ({ frames := 1, cells := 0, slots := 0, locals := 21 })).room s m ([.ref hm, .int a0] : List Value).toArray below meth c s.heap [] 0 0 (MQ below (QSz r) ([.ref hm, .int a0] : List Value).toArray s 0 0 (fun _ => False)) (F0 m 14 ls [.int x3]) := by
    intro x3 ls hl hf
    rw [hK2] at hf
    refine lv_istore_n (lv' := [(2, .int x3), (0, .ref hm), (1, .int a0)]) hx hb dX5_isWorking_14 rfl hl (by decide) rfl (fun ls hl => ?_)
    refine lv_iconst (v := 0) hx hb dX5_isWorking_15 (by decide) ?_
    refine lv_istore_n (lv' := [(3, .int 0), (2, .int x3), (0, .ref hm), (1, .int a0)]) hx hb dX5_isWorking_16 rfl hl (by decide) rfl (fun ls hl => ?_)
    have LP17 : ∀ (n6 : Nat) (x4 : Int32) (x5 : Int32) (ls : Array Slot), lv_has ls 4 [(0, .ref hm), (1, .int a0), (2, .int x4), (3, .int x5)] → f_X5_isWorking_L17 M mhol a0 n6 x4 x5 = some r → W p l e (headSpec wsX5_isWorking ({ frames := 1, cells := 0, slots := 0, locals := 21 })).room s m ([.ref hm, .int a0] : List Value).toArray below meth c s.heap [] 0 0 (MQ below (QSz r) ([.ref hm, .int a0] : List Value).toArray s 0 0 (fun _ => False)) (F0 m 17 ls []) := by
      intro n6
      induction n6 with
      | zero => intro x4 x5 ls hl hf; exact (no_s hf).elim
      | succ n6 ih6 =>
        intro x4 x5 ls hl hf
        rw [f_X5_isWorking_L17] at hf
        refine lv_iload_n hx hb dX5_isWorking_17 rfl (lv_at hl 3 rfl) ?_
        refine lv_aload_n hx hb dX5_isWorking_18 rfl (lv_at hl 0 rfl) ?_
        refine va_get (D := D) (ci := 4) (v := .int (M 5)) (C := RX5) (T := TX5) (N := 10) hx hb hts inX5_isWorking_X5 hown hK hP 0 rfl rfl 5 (by decide) (hts (.fieldLink RX5 57 "BondDeskModel" "holidays" "I") (by decide +kernel)) (fun _ h9 => h9) rfl dX5_isWorking_19 ?_
        refine lv_icmp_ge (tgt := 51) hx hb dX5_isWorking_22 (by decide) (fun c7 => ?_) (fun c7 => ?_)
        · have hf := it hf c7
          refine lv_iload_n hx hb dX5_isWorking_51 rfl (lv_at hl 2 rfl) ?_
          obtain ⟨zx4, hf⟩ := gd_s hf
          exact W.zret hx hb hr (zn zx4) (fun t ht _ => ⟨_, rfl, ⟨Option.some.inj hf, zx4⟩, ht⟩) (fun q hq => absurd hq List.not_mem_nil) dX5_isWorking_52
        · have hf := ie hf c7
          refine lv_iload_n hx hb dX5_isWorking_25 rfl (lv_at hl 2 rfl) ?_
          refine lv_if_eq (tgt := 51) hx hb dX5_isWorking_26 (by decide) (fun c8 => ?_) (fun c8 => ?_)
          · have hf := it hf c8
            refine lv_iload_n hx hb dX5_isWorking_51 rfl (lv_at hl 2 rfl) ?_
            obtain ⟨zx4, hf⟩ := gd_s hf
            exact W.zret hx hb hr (zn zx4) (fun t ht _ => ⟨_, rfl, ⟨Option.some.inj hf, zx4⟩, ht⟩) (fun q hq => absurd hq List.not_mem_nil) dX5_isWorking_52
          · have hf := ie hf c8
            refine lv_aload_n hx hb dX5_isWorking_29 rfl (lv_at hl 0 rfl) ?_
            refine va_get (D := D) (ci := 4) (v := .ref mh) (C := RX5) (T := TX5) (N := 10) hx hb hts inX5_isWorking_X5 hown hK hP 0 rfl rfl 6 (by decide) (hts (.fieldLink RX5 27 "BondDeskModel" "holiday" "[I") (by decide +kernel)) (fun _ h9 => h9) rfl dX5_isWorking_30 ?_
            refine lv_iload_n hx hb dX5_isWorking_33 rfl (lv_at hl 3 rfl) ?_
            obtain ⟨c9, hf⟩ := gd_s hf
            refine va_iald hx hb hK hP 1 0 rfl rfl c9 dX5_isWorking_34 ?_
            refine lv_iload_n hx hb dX5_isWorking_35 rfl (lv_at hl 1 rfl) ?_
            refine lv_icmp_eq (tgt := 43) hx hb dX5_isWorking_36 (by decide) (fun c10 => ?_) (fun c10 => ?_)
            · have hf := it hf c10
              refine lv_iconst (v := 0) hx hb dX5_isWorking_43 (by decide) ?_
              refine lv_istore_n (lv' := [(2, .int 0), (0, .ref hm), (1, .int a0), (3, .int x5)]) hx hb dX5_isWorking_44 rfl hl (by decide) rfl (fun ls hl => ?_)
              obtain ⟨x11, ex11⟩ : ∃ y : Int32, y = x5 + 1 := ⟨_, rfl⟩
              have hf := bd_s hf ex11
              refine lv_iinc (v := x11) (lv' := [(3, .int x11), (2, .int 0), (0, .ref hm), (1, .int a0)]) hx hb dX5_isWorking_45 hl (k := 3) rfl (by rw [ex11]; rfl) (by decide) rfl (fun ls hl => ?_)
              refine lv_goto (tgt := 17) hx hb dX5_isWorking_48 (by decide) ?_
              exact ih6 0 x11 ls (lv_sub hl [2, 3, 1, 0] rfl) hf
            · have hf := ie hf c10
              refine lv_iconst (v := 1) hx hb dX5_isWorking_39 (by decide) ?_
              refine lv_goto (tgt := 44) hx hb dX5_isWorking_40 (by decide) ?_
              refine lv_istore_n (lv' := [(2, .int 1), (0, .ref hm), (1, .int a0), (3, .int x5)]) hx hb dX5_isWorking_44 rfl hl (by decide) rfl (fun ls hl => ?_)
              obtain ⟨x12, ex12⟩ : ∃ y : Int32, y = x5 + 1 := ⟨_, rfl⟩
              have hf := bd_s hf ex12
              refine lv_iinc (v := x12) (lv' := [(3, .int x12), (2, .int 1), (0, .ref hm), (1, .int a0)]) hx hb dX5_isWorking_45 hl (k := 3) rfl (by rw [ex12]; rfl) (by decide) rfl (fun ls hl => ?_)
              refine lv_goto (tgt := 17) hx hb dX5_isWorking_48 (by decide) ?_
              exact ih6 1 x12 ls (lv_sub hl [2, 3, 1, 0] rfl) hf
    exact LP17 N x3 0 ls (lv_sub hl [2, 3, 1, 0] rfl) hf
  refine lv_icmp_ge (tgt := 13) hx hb dX5_isWorking_6 (by decide) (fun c13 => ?_) (fun c13 => ?_)
  · have hf := it hf c13
    refine lv_iconst (v := 0) hx hb dX5_isWorking_13 (by decide) ?_
    exact JK2 0 ls (lv_sub hl [0, 1] rfl) hf
  · have hf := ie hf c13
    refine lv_iconst (v := 1) hx hb dX5_isWorking_9 (by decide) ?_
    refine lv_goto (tgt := 14) hx hb dX5_isWorking_10 (by decide) ?_
    exact JK2 1 ls (lv_sub hl [0, 1] rfl) hf
set_option maxHeartbeats 4000000 in
set_option maxRecDepth 100000 in
theorem m_X5_firstWorking (l : Launch) (D : va_G) (cI cJ cO : ClassId) (hm : Nat) (mh : Nat) (mo : Nat) (my : Nat) (mp : Nat) (M : Nat → Int32) (mc : Int64) (mhol : Nat → Int32) (mof : Nat → Int32) (mdy : Nat → Int32) (mpd : Nat → Int64) (a0 : Int32) (N : Nat) (r : Int32) (hf : f_X5_firstWorking N M mhol a0 = some r) : Met l yX5_firstWorking wsX5_firstWorking ({ frames := 2, cells := 0, slots := 0, locals := 44 }) (va_Pc [.ref hm, .int a0] (pw D (ty3 cI cJ cO) none [eM hm mh mo my mp M mc, eH cI mh mhol, eO cI mo mof, eY cI my mdy, eP cJ mp mpd])) (QSi r) 0 0 (fun _ => False) := by
  refine Met.ofW (cc := cX5_firstWorking) (maxL := 3) (ret := (some .int)) (by decide) rfl ?_
  intro p e s m args below meth c s₁ Bd hml hv
  obtain ⟨rfl, hZ, hP, hK⟩ := hv
  have hx := Bd.exec
  have hb := Bd.bytes
  have hr := Bd.returns
  have hts := atoms_spec (ws := wsX5_firstWorking) Bd.pre
  have hown : s.vm.findClass RX5 = some m.cls := findClass_of_methodNamed Bd.named
  have hlocks := Bd.notSynchronized
  have hl := lv_entry ([.ref hm, .int a0]) (n := 3) (Nat.le_of_ble_eq_true rfl)
  rw [lg_entry_eq]
  generalize (lg_sl ([.ref hm, .int a0]) ++ List.replicate (3 - (lg_sl ([.ref hm, .int a0])).length) Slot.unset).toArray = ls at hl ⊢
  have hl : lv_has ls 3 [(0, .ref hm), (1, .int a0)] := hl
  unfold f_X5_firstWorking at hf
  refine lv_iload_n hx hb dX5_firstWorking_0 rfl (lv_at hl 1 rfl) ?_
  refine lv_istore_n (lv' := [(2, .int a0), (0, .ref hm), (1, .int a0)]) hx hb dX5_firstWorking_1 rfl hl (by decide) rfl (fun ls hl => ?_)
  have LP2 : ∀ (n2 : Nat) (x1 : Int32) (ls : Array Slot), lv_has ls 3 [(0, .ref hm), (2, .int x1)] → f_X5_firstWorking_L2 N M mhol n2 x1 = some r → W p l e (headSpec wsX5_firstWorking ({ frames := 2, cells := 0, slots := 0, locals := 44 })).room s m ([.ref hm, .int a0] : List Value).toArray below meth c s.heap [] 0 0 (MQ below (QSi r) ([.ref hm, .int a0] : List Value).toArray s 0 0 (fun _ => False)) (F0 m 2 ls []) := by
    intro n2
    induction n2 with
    | zero => intro x1 ls hl hf; exact (no_s hf).elim
    | succ n2 ih2 =>
      intro x1 ls hl hf
      rw [f_X5_firstWorking_L2] at hf
      refine lv_aload_n hx hb dX5_firstWorking_2 rfl (lv_at hl 0 rfl) ?_
      refine lv_iload_n hx hb dX5_firstWorking_3 rfl (lv_at hl 1 rfl) ?_
      obtain ⟨v3, hv3, hf⟩ := ob hf
      refine cSz (W.runV (As := [.int x1]) (rest := []) ⟨hx, hb, hml, hown, hts⟩ (m_X5_isWorking l D cI cJ cO hm mh mo my mp M mc mhol mof mdy mpd x1 N v3 hv3) (cwV 1 hts gX5_firstWorking_X5_isWorking rfl rfl rfl (by decide +kernel) ⟨(Nat.le_of_ble_eq_true rfl), (Nat.le_of_ble_eq_true rfl)⟩) ⟨pw_blind, va_recv hK hP (ci := 4) (q0 := 0) rfl rfl, fun U hU hW => ⟨rfl, pw_at hZ va_S.rf hP hK hU hW (Or.inr rfl) [0, 1, 2, 3, 4] rfl⟩⟩ rfl rfl hl.1 rfl (lv_room (Nat.le_of_ble_eq_true rfl)) dX5_firstWorking_4 ⟨(Nat.le_of_ble_eq_true rfl), (Nat.le_of_ble_eq_true rfl)⟩) (fun zv3 => ?_)
      refine lv_if_ne (tgt := 16) hx hb dX5_firstWorking_7 (by decide) (fun c4 => ?_) (fun c4 => ?_)
      · have hf := ie hf c4
        refine lv_iload_n hx hb dX5_firstWorking_16 rfl (lv_at hl 1 rfl) ?_
        exact W.iret hx hb hr (fun t ht _ => ⟨_, rfl, Option.some.inj hf, ht⟩) (fun q hq => absurd hq List.not_mem_nil) dX5_firstWorking_17
      · have hf := it hf c4
        obtain ⟨x5, ex5⟩ : ∃ y : Int32, y = x1 + 1 := ⟨_, rfl⟩
        have hf := bd_s hf ex5
        refine lv_iinc (v := x5) (lv' := [(2, .int x5), (0, .ref hm)]) hx hb dX5_firstWorking_10 hl (k := 1) rfl (by rw [ex5]; rfl) (by decide) rfl (fun ls hl => ?_)
        refine lv_goto (tgt := 2) hx hb dX5_firstWorking_13 (by decide) ?_
        exact ih2 x5 ls (lv_sub hl [1, 0] rfl) hf
  exact LP2 N a0 ls (lv_sub hl [1, 0] rfl) hf
theorem inX5_isBond_X5 : ∀ w ∈ wsX50, w ∈ wsX5_isBond := by decide +kernel
set_option maxHeartbeats 4000000 in
set_option maxRecDepth 100000 in
theorem m_X5_isBond (l : Launch) (D : va_G) (cI cJ cO : ClassId) (hm : Nat) (mh : Nat) (mo : Nat) (my : Nat) (mp : Nat) (M : Nat → Int32) (mc : Int64) (mhol : Nat → Int32) (mof : Nat → Int32) (mdy : Nat → Int32) (mpd : Nat → Int64) (a0 : Int32) (r : Int32) (hf : f_X5_isBond M a0 = some r) : Met l yX5_isBond wsX5_isBond ({ frames := 1, cells := 0, slots := 0, locals := 22 }) (va_Pc [.ref hm, .int a0] (pw D (ty3 cI cJ cO) none [eM hm mh mo my mp M mc, eH cI mh mhol, eO cI mo mof, eY cI my mdy, eP cJ mp mpd])) (QSz r) 0 0 (fun _ => False) := by
  refine Met.ofW (cc := cX5_isBond) (maxL := 2) (ret := (some .boolean)) (by decide) rfl ?_
  intro p e s m args below meth c s₁ Bd hml hv
  obtain ⟨rfl, hZ, hP, hK⟩ := hv
  have hx := Bd.exec
  have hb := Bd.bytes
  have hr := Bd.returns
  have hts := atoms_spec (ws := wsX5_isBond) Bd.pre
  have hown : s.vm.findClass RX5 = some m.cls := findClass_of_methodNamed Bd.named
  have hlocks := Bd.notSynchronized
  have hl := lv_entry ([.ref hm, .int a0]) (n := 2) (Nat.le_of_ble_eq_true rfl)
  rw [lg_entry_eq]
  generalize (lg_sl ([.ref hm, .int a0]) ++ List.replicate (2 - (lg_sl ([.ref hm, .int a0])).length) Slot.unset).toArray = ls at hl ⊢
  have hl : lv_has ls 2 [(0, .ref hm), (1, .int a0)] := hl
  unfold f_X5_isBond at hf
  refine lv_iload_n hx hb dX5_isBond_0 rfl (lv_at hl 1 rfl) ?_
  refine lv_iconst (v := 0) hx hb dX5_isBond_1 (by decide) ?_
  refine lv_aload_n hx hb dX5_isBond_2 rfl (lv_at hl 0 rfl) ?_
  refine va_get (D := D) (ci := 4) (v := .int (M 4)) (C := RX5) (T := TX5) (N := 10) hx hb hts inX5_isBond_X5 hown hK hP 0 rfl rfl 4 (by decide) (hts (.fieldLink RX5 77 "BondDeskModel" "bonds" "I") (by decide +kernel)) (fun _ h9 => h9) rfl dX5_isBond_3 ?_
  refine lv_iconst (v := 1) hx hb dX5_isBond_6 (by decide) ?_
  refine lv_isub hx hb dX5_isBond_7 ?_
  obtain ⟨v1, hv1, hf⟩ := ob hf
  refine cSz (W.runS (As := [.int a0, .int 0, .int ((M 4) - 1)]) (rest := []) ⟨hx, hb, hml, hown, hts⟩ (m_X5_isIn l D cI cJ cO a0 0 ((M 4) - 1) v1 hv1) (va_cwS 3 hts gX5_isBond_X5_isIn rfl rfl rfl (by decide +kernel) ⟨(Nat.le_of_ble_eq_true rfl), (Nat.le_of_ble_eq_true rfl)⟩) ⟨pw_blind, fun U hU hW => ⟨rfl, pw_at hZ va_S.rf hP hK hU hW (Or.inr rfl) [] rfl⟩⟩ rfl rfl hl.1 rfl (lv_room (Nat.le_of_ble_eq_true rfl)) dX5_isBond_8 ⟨(Nat.le_of_ble_eq_true rfl), (Nat.le_of_ble_eq_true rfl)⟩) (fun zv1 => ?_)
  exact W.zret hx hb hr (zn zv1) (fun t ht _ => ⟨_, rfl, ⟨Option.some.inj hf, zv1⟩, ht⟩) (fun q hq => absurd hq List.not_mem_nil) dX5_isBond_11
theorem inX5_own_X5 : ∀ w ∈ wsX50, w ∈ wsX5_own := by decide +kernel
set_option maxHeartbeats 4000000 in
set_option maxRecDepth 100000 in
theorem m_X5_own (l : Launch) (D : va_G) (cI cJ cO : ClassId) (hm : Nat) (mh : Nat) (mo : Nat) (my : Nat) (mp : Nat) (M : Nat → Int32) (mc : Int64) (mhol : Nat → Int32) (mof : Nat → Int32) (mdy : Nat → Int32) (mpd : Nat → Int64) (a0 : Int32) (a1 : Int32) (r : Int32) (hf : f_X5_own mof a0 a1 = some r) : Met l yX5_own wsX5_own ({ frames := 0, cells := 0, slots := 0, locals := 0 }) (va_Pc [.ref hm, .int a0, .int a1] (pw D (ty3 cI cJ cO) none [eM hm mh mo my mp M mc, eH cI mh mhol, eO cI mo mof, eY cI my mdy, eP cJ mp mpd])) (QSi r) 0 0 (fun _ => False) := by
  refine Met.ofW (cc := cX5_own) (maxL := 3) (ret := (some .int)) (by decide) rfl ?_
  intro p e s m args below meth c s₁ Bd hml hv
  obtain ⟨rfl, hZ, hP, hK⟩ := hv
  have hx := Bd.exec
  have hb := Bd.bytes
  have hr := Bd.returns
  have hts := atoms_spec (ws := wsX5_own) Bd.pre
  have hown : s.vm.findClass RX5 = some m.cls := findClass_of_methodNamed Bd.named
  have hlocks := Bd.notSynchronized
  have hl := lv_entry ([.ref hm, .int a0, .int a1]) (n := 3) (Nat.le_of_ble_eq_true rfl)
  rw [lg_entry_eq]
  generalize (lg_sl ([.ref hm, .int a0, .int a1]) ++ List.replicate (3 - (lg_sl ([.ref hm, .int a0, .int a1])).length) Slot.unset).toArray = ls at hl ⊢
  have hl : lv_has ls 3 [(0, .ref hm), (1, .int a0), (2, .int a1)] := hl
  unfold f_X5_own at hf
  refine lv_aload_n hx hb dX5_own_0 rfl (lv_at hl 0 rfl) ?_
  refine va_get (D := D) (ci := 4) (v := .ref mo) (C := RX5) (T := TX5) (N := 10) hx hb hts inX5_own_X5 hown hK hP 0 rfl rfl 7 (by decide) (hts (.fieldLink RX5 31 "BondDeskModel" "of" "[I") (by decide +kernel)) (fun _ h9 => h9) rfl dX5_own_1 ?_
  refine lv_bipush (v := 14) hx hb dX5_own_4 (by decide) ?_
  refine lv_iload_n hx hb dX5_own_6 rfl (lv_at hl 1 rfl) ?_
  refine lv_imul hx hb dX5_own_7 ?_
  refine lv_iload_n hx hb dX5_own_8 rfl (lv_at hl 2 rfl) ?_
  refine lv_iadd hx hb dX5_own_9 ?_
  refine lv_topi (fun x1 ex1 => ?_)
  have hf := bd_s hf ex1
  obtain ⟨c2, hf⟩ := gd_s hf
  refine va_iald hx hb hK hP 2 0 rfl rfl c2 dX5_own_10 ?_
  exact W.iret hx hb hr (fun t ht _ => ⟨_, rfl, Option.some.inj hf, ht⟩) (fun q hq => absurd hq List.not_mem_nil) dX5_own_11
theorem inX5_couponDay_X5 : ∀ w ∈ wsX50, w ∈ wsX5_couponDay := by decide +kernel
set_option maxHeartbeats 4000000 in
set_option maxRecDepth 100000 in
theorem m_X5_couponDay (l : Launch) (D : va_G) (cI cJ cO : ClassId) (hm : Nat) (mh : Nat) (mo : Nat) (my : Nat) (mp : Nat) (M : Nat → Int32) (mc : Int64) (mhol : Nat → Int32) (mof : Nat → Int32) (mdy : Nat → Int32) (mpd : Nat → Int64) (a0 : Int32) (a1 : Int32) (r : Int32) (hf : f_X5_couponDay mdy a0 a1 = some r) : Met l yX5_couponDay wsX5_couponDay ({ frames := 0, cells := 0, slots := 0, locals := 0 }) (va_Pc [.ref hm, .int a0, .int a1] (pw D (ty3 cI cJ cO) none [eM hm mh mo my mp M mc, eH cI mh mhol, eO cI mo mof, eY cI my mdy, eP cJ mp mpd])) (QSi r) 0 0 (fun _ => False) := by
  refine Met.ofW (cc := cX5_couponDay) (maxL := 3) (ret := (some .int)) (by decide) rfl ?_
  intro p e s m args below meth c s₁ Bd hml hv
  obtain ⟨rfl, hZ, hP, hK⟩ := hv
  have hx := Bd.exec
  have hb := Bd.bytes
  have hr := Bd.returns
  have hts := atoms_spec (ws := wsX5_couponDay) Bd.pre
  have hown : s.vm.findClass RX5 = some m.cls := findClass_of_methodNamed Bd.named
  have hlocks := Bd.notSynchronized
  have hl := lv_entry ([.ref hm, .int a0, .int a1]) (n := 3) (Nat.le_of_ble_eq_true rfl)
  rw [lg_entry_eq]
  generalize (lg_sl ([.ref hm, .int a0, .int a1]) ++ List.replicate (3 - (lg_sl ([.ref hm, .int a0, .int a1])).length) Slot.unset).toArray = ls at hl ⊢
  have hl : lv_has ls 3 [(0, .ref hm), (1, .int a0), (2, .int a1)] := hl
  unfold f_X5_couponDay at hf
  refine lv_aload_n hx hb dX5_couponDay_0 rfl (lv_at hl 0 rfl) ?_
  refine va_get (D := D) (ci := 4) (v := .ref my) (C := RX5) (T := TX5) (N := 10) hx hb hts inX5_couponDay_X5 hown hK hP 0 rfl rfl 8 (by decide) (hts (.fieldLink RX5 34 "BondDeskModel" "day" "[I") (by decide +kernel)) (fun _ h9 => h9) rfl dX5_couponDay_1 ?_
  refine lv_bipush (v := 121) hx hb dX5_couponDay_4 (by decide) ?_
  refine lv_iload_n hx hb dX5_couponDay_6 rfl (lv_at hl 1 rfl) ?_
  refine lv_imul hx hb dX5_couponDay_7 ?_
  refine lv_iload_n hx hb dX5_couponDay_8 rfl (lv_at hl 2 rfl) ?_
  refine lv_iadd hx hb dX5_couponDay_9 ?_
  refine lv_iconst (v := 1) hx hb dX5_couponDay_10 (by decide) ?_
  refine lv_iadd hx hb dX5_couponDay_11 ?_
  refine lv_topi (fun x1 ex1 => ?_)
  have hf := bd_s hf ex1
  obtain ⟨c2, hf⟩ := gd_s hf
  refine va_iald hx hb hK hP 3 0 rfl rfl c2 dX5_couponDay_12 ?_
  exact W.iret hx hb hr (fun t ht _ => ⟨_, rfl, Option.some.inj hf, ht⟩) (fun q hq => absurd hq List.not_mem_nil) dX5_couponDay_13
set_option maxHeartbeats 4000000 in
set_option maxRecDepth 100000 in
theorem m_X5_moved (l : Launch) (D : va_G) (cI cJ cO : ClassId) (a0 : Int32) (a1 : Int32) (r : Int32) (hf : f_X5_moved a0 a1 = some r) : Met l yX5_moved wsX5_moved ({ frames := 1, cells := 0, slots := 0, locals := 21 }) (va_Pc [.int a0, .int a1] (pw D (ty3 cI cJ cO) none [])) (QSi r) 0 0 (fun _ => False) := by
  refine Met.ofW (cc := cX5_moved) (maxL := 6) (ret := (some .int)) (by decide) rfl ?_
  intro p e s m args below meth c s₁ Bd hml hv
  obtain ⟨rfl, hZ, hP, hK⟩ := hv
  have hx := Bd.exec
  have hb := Bd.bytes
  have hr := Bd.returns
  have hts := atoms_spec (ws := wsX5_moved) Bd.pre
  have hown : s.vm.findClass RX5 = some m.cls := findClass_of_methodNamed Bd.named
  have hlocks := Bd.notSynchronized
  have hl := lv_entry ([.int a0, .int a1]) (n := 6) (Nat.le_of_ble_eq_true rfl)
  rw [lg_entry_eq]
  generalize (lg_sl ([.int a0, .int a1]) ++ List.replicate (6 - (lg_sl ([.int a0, .int a1])).length) Slot.unset).toArray = ls at hl ⊢
  have hl : lv_has ls 6 [(0, .int a0), (1, .int a1)] := hl
  unfold f_X5_moved at hf
  refine lv_iload_n hx hb dX5_moved_0 rfl (lv_at hl 0 rfl) ?_
  refine lv_sipush (v := 10000) hx hb dX5_moved_1 (by decide) ?_
  refine lv_idiv hx hb dX5_moved_4 (by decide) ?_
  refine lv_bipush (v := 12) hx hb dX5_moved_5 (by decide) ?_
  refine lv_imul hx hb dX5_moved_7 ?_
  refine lv_iload_n hx hb dX5_moved_8 rfl (lv_at hl 0 rfl) ?_
  refine lv_bipush (v := 100) hx hb dX5_moved_9 (by decide) ?_
  refine lv_idiv hx hb dX5_moved_11 (by decide) ?_
  refine lv_bipush (v := 100) hx hb dX5_moved_12 (by decide) ?_
  refine lv_irem hx hb dX5_moved_14 (by decide) ?_
  refine lv_iadd hx hb dX5_moved_15 ?_
  refine lv_iconst (v := 1) hx hb dX5_moved_16 (by decide) ?_
  refine lv_isub hx hb dX5_moved_17 ?_
  refine lv_iload_n hx hb dX5_moved_18 rfl (lv_at hl 1 rfl) ?_
  refine lv_isub hx hb dX5_moved_19 ?_
  refine lv_topi (fun x1 ex1 => ?_)
  have hf := bd_s hf ex1
  refine lv_istore_n (lv' := [(2, .int x1), (0, .int a0), (1, .int a1)]) hx hb dX5_moved_20 rfl hl (by decide) rfl (fun ls hl => ?_)
  refine lv_iload_n hx hb dX5_moved_21 rfl (lv_at hl 0 rfl) ?_
  refine lv_bipush (v := 12) hx hb dX5_moved_22 (by decide) ?_
  refine lv_idiv hx hb dX5_moved_24 (by decide) ?_
  refine lv_topi (fun x2 ex2 => ?_)
  have hf := bd_s hf ex2
  refine lv_istore_n (lv' := [(3, .int x2), (2, .int x1), (0, .int a0), (1, .int a1)]) hx hb dX5_moved_25 rfl hl (by decide) rfl (fun ls hl => ?_)
  refine lv_iload_n hx hb dX5_moved_26 rfl (lv_at hl 0 rfl) ?_
  refine lv_iload_n hx hb dX5_moved_27 rfl (lv_at hl 1 rfl) ?_
  refine lv_bipush (v := 12) hx hb dX5_moved_28 (by decide) ?_
  refine lv_irem hx hb dX5_moved_30 (by decide) ?_
  refine lv_iconst (v := 1) hx hb dX5_moved_31 (by decide) ?_
  refine lv_iadd hx hb dX5_moved_32 ?_
  obtain ⟨v3, hv3, hf⟩ := ob hf
  refine cSi (W.runS (As := [.int x2, .int ((x1 - x1 / 12 * 12) + 1)]) (rest := []) ⟨hx, hb, hml, hown, hts⟩ (m_X5_length l D cI cJ cO x2 ((x1 - x1 / 12 * 12) + 1) v3 hv3) (va_cwS 2 hts gX5_moved_X5_length rfl rfl rfl (by decide +kernel) ⟨(Nat.le_of_ble_eq_true rfl), (Nat.le_of_ble_eq_true rfl)⟩) ⟨pw_blind, fun U hU hW => ⟨rfl, pw_at hZ va_S.rf hP hK hU hW (Or.inr rfl) [] rfl⟩⟩ rfl rfl hl.1 rfl (lv_room (Nat.le_of_ble_eq_true rfl)) dX5_moved_33 ⟨(Nat.le_of_ble_eq_true rfl), (Nat.le_of_ble_eq_true rfl)⟩) ?_
  refine lv_istore (lv' := [(4, .int v3), (3, .int x2), (2, .int x1), (0, .int a0), (1, .int a1)]) hx hb dX5_moved_36 hl (by decide) rfl (fun ls hl => ?_)
  refine lv_iload_n hx hb dX5_moved_38 rfl (lv_at hl 3 rfl) ?_
  refine lv_bipush (v := 100) hx hb dX5_moved_39 (by decide) ?_
  refine lv_irem hx hb dX5_moved_41 (by decide) ?_
  refine lv_iload_n hx hb dX5_moved_42 rfl (lv_at hl 3 rfl) ?_
  refine lv_sipush (v := 10000) hx hb dX5_moved_43 (by decide) ?_
  refine lv_idiv hx hb dX5_moved_46 (by decide) ?_
  refine lv_iload_n hx hb dX5_moved_47 rfl (lv_at hl 3 rfl) ?_
  refine lv_bipush (v := 100) hx hb dX5_moved_48 (by decide) ?_
  refine lv_idiv hx hb dX5_moved_50 (by decide) ?_
  refine lv_bipush (v := 100) hx hb dX5_moved_51 (by decide) ?_
  refine lv_irem hx hb dX5_moved_53 (by decide) ?_
  obtain ⟨v4, hv4, hf⟩ := ob hf
  refine cSi (W.runS (As := [.int (a0 / 10000), .int ((a0 / 100) - (a0 / 100) / 100 * 100)]) (rest := [.int (a0 - a0 / 100 * 100)]) ⟨hx, hb, hml, hown, hts⟩ (m_X5_length l D cI cJ cO (a0 / 10000) ((a0 / 100) - (a0 / 100) / 100 * 100) v4 hv4) (va_cwS 2 hts gX5_moved_X5_length rfl rfl rfl (by decide +kernel) ⟨(Nat.le_of_ble_eq_true rfl), (Nat.le_of_ble_eq_true rfl)⟩) ⟨pw_blind, fun U hU hW => ⟨rfl, pw_at hZ va_S.rf hP hK hU hW (Or.inr rfl) [] rfl⟩⟩ rfl rfl hl.1 rfl (lv_room (Nat.le_of_ble_eq_true rfl)) dX5_moved_54 ⟨(Nat.le_of_ble_eq_true rfl), (Nat.le_of_ble_eq_true rfl)⟩) ?_
  obtain ⟨K5, hK5, hf⟩ := jn_s hf
  have JK5 : ∀ (x6 : Int32) (ls : Array Slot), lv_has ls 6 [(0, .int a0), (2, .int x1), (3, .int x2), (4, .int v3)] → K5 x6 = some r → W p l e (headSpec wsX5_moved ({ frames := 1, cells := 0, slots := 0, locals := 21 })).room s m ([.int a0, .int a1] : List Value).toArray below meth c s.heap [] 0 0 (MQ below (QSi r) ([.int a0, .int a1] : List Value).toArray s 0 0 (fun _ => False)) (F0 m 65 ls [.int x6]) := by
    intro x6 ls hl hf
    rw [hK5] at hf
    refine lv_istore (lv' := [(5, .int x6), (0, .int a0), (2, .int x1), (3, .int x2), (4, .int v3)]) hx hb dX5_moved_65 hl (by decide) rfl (fun ls hl => ?_)
    refine lv_sipush (v := 10000) hx hb dX5_moved_67 (by decide) ?_
    refine lv_iload_n hx hb dX5_moved_70 rfl (lv_at hl 3 rfl) ?_
    refine lv_imul hx hb dX5_moved_71 ?_
    refine lv_bipush (v := 100) hx hb dX5_moved_72 (by decide) ?_
    refine lv_iload_n hx hb dX5_moved_74 rfl (lv_at hl 2 rfl) ?_
    refine lv_bipush (v := 12) hx hb dX5_moved_75 (by decide) ?_
    refine lv_irem hx hb dX5_moved_77 (by decide) ?_
    refine lv_iconst (v := 1) hx hb dX5_moved_78 (by decide) ?_
    refine lv_iadd hx hb dX5_moved_79 ?_
    refine lv_imul hx hb dX5_moved_80 ?_
    refine lv_iadd hx hb dX5_moved_81 ?_
    refine lv_iload hx hb dX5_moved_82 (lv_at hl 0 rfl) ?_
    refine lv_if_eq (tgt := 92) hx hb dX5_moved_84 (by decide) (fun c7 => ?_) (fun c7 => ?_)
    · have hf := it hf c7
      refine lv_iload hx hb dX5_moved_92 (lv_at hl 4 rfl) ?_
      refine lv_iload_n hx hb dX5_moved_94 rfl (lv_at hl 1 rfl) ?_
      refine lv_bipush (v := 100) hx hb dX5_moved_95 (by decide) ?_
      refine lv_irem hx hb dX5_moved_97 (by decide) ?_
      refine va_mmin hx hb (hml.trans hl.1.symm) hown (hts (.methodLink RX5 80 Lib.Math.min.name) (by decide +kernel)) (hts (.static Lib.Math.min.name) (by decide +kernel)) (hts (.initialized "java/lang/Math") (by decide +kernel)) (hts (.code Lib.Math.min.name Lib.Math.min.code 2 (some .int)) (by decide +kernel)) (Nat.le_of_ble_eq_true rfl) (Nat.le_of_ble_eq_true rfl) (Nat.le_of_ble_eq_true rfl) (Nat.le_of_ble_eq_true rfl) dX5_moved_98 ?_
      refine lv_topi (fun x8 ex8 => ?_)
      have hf := bd_s hf ex8
      refine lv_iadd hx hb dX5_moved_101 ?_
      exact W.iret hx hb hr (fun t ht _ => ⟨_, rfl, Option.some.inj hf, ht⟩) (fun q hq => absurd hq List.not_mem_nil) dX5_moved_102
    · have hf := ie hf c7
      refine lv_iload hx hb dX5_moved_87 (lv_at hl 4 rfl) ?_
      refine lv_goto (tgt := 101) hx hb dX5_moved_89 (by decide) ?_
      refine lv_iadd hx hb dX5_moved_101 ?_
      exact W.iret hx hb hr (fun t ht _ => ⟨_, rfl, Option.some.inj hf, ht⟩) (fun q hq => absurd hq List.not_mem_nil) dX5_moved_102
  refine lv_icmp_ne (tgt := 64) hx hb dX5_moved_57 (by decide) (fun c9 => ?_) (fun c9 => ?_)
  · have hf := ie hf c9
    refine lv_iconst (v := 0) hx hb dX5_moved_64 (by decide) ?_
    exact JK5 0 ls (lv_sub hl [3, 2, 1, 0] rfl) hf
  · have hf := it hf c9
    refine lv_iconst (v := 1) hx hb dX5_moved_60 (by decide) ?_
    refine lv_goto (tgt := 65) hx hb dX5_moved_61 (by decide) ?_
    exact JK5 1 ls (lv_sub hl [3, 2, 1, 0] rfl) hf
set_option maxHeartbeats 4000000 in
set_option maxRecDepth 100000 in
theorem m_X5_isThere (l : Launch) (D : va_G) (cI cJ cO : ClassId) (hm : Nat) (mh : Nat) (mo : Nat) (my : Nat) (mp : Nat) (M : Nat → Int32) (mc : Int64) (mhol : Nat → Int32) (mof : Nat → Int32) (mdy : Nat → Int32) (mpd : Nat → Int64) (a0 : Int32) (r : Int32) (hf : f_X5_isThere mof a0 = some r) : Met l yX5_isThere wsX5_isThere ({ frames := 1, cells := 0, slots := 0, locals := 22 }) (va_Pc [.ref hm, .int a0] (pw D (ty3 cI cJ cO) none [eM hm mh mo my mp M mc, eH cI mh mhol, eO cI mo mof, eY cI my mdy, eP cJ mp mpd])) (QSz r) 0 0 (fun _ => False) := by
  refine Met.ofW (cc := cX5_isThere) (maxL := 2) (ret := (some .boolean)) (by decide) rfl ?_
  intro p e s m args below meth c s₁ Bd hml hv
  obtain ⟨rfl, hZ, hP, hK⟩ := hv
  have hx := Bd.exec
  have hb := Bd.bytes
  have hr := Bd.returns
  have hts := atoms_spec (ws := wsX5_isThere) Bd.pre
  have hown : s.vm.findClass RX5 = some m.cls := findClass_of_methodNamed Bd.named
  have hlocks := Bd.notSynchronized
  have hl := lv_entry ([.ref hm, .int a0]) (n := 2) (Nat.le_of_ble_eq_true rfl)
  rw [lg_entry_eq]
  generalize (lg_sl ([.ref hm, .int a0]) ++ List.replicate (2 - (lg_sl ([.ref hm, .int a0])).length) Slot.unset).toArray = ls at hl ⊢
  have hl : lv_has ls 2 [(0, .ref hm), (1, .int a0)] := hl
  unfold f_X5_isThere at hf
  refine lv_aload_n hx hb dX5_isThere_0 rfl (lv_at hl 0 rfl) ?_
  refine lv_iload_n hx hb dX5_isThere_1 rfl (lv_at hl 1 rfl) ?_
  refine lv_bipush (v := 8) hx hb dX5_isThere_2 (by decide) ?_
  obtain ⟨v1, hv1, hf⟩ := ob hf
  refine cSi (W.runV (As := [.int a0, .int 8]) (rest := []) ⟨hx, hb, hml, hown, hts⟩ (m_X5_own l D cI cJ cO hm mh mo my mp M mc mhol mof mdy mpd a0 8 v1 hv1) (cwV 2 hts gX5_isThere_X5_own rfl rfl rfl (by decide +kernel) ⟨(Nat.le_of_ble_eq_true rfl), (Nat.le_of_ble_eq_true rfl)⟩) ⟨pw_blind, va_recv hK hP (ci := 4) (q0 := 0) rfl rfl, fun U hU hW => ⟨rfl, pw_at hZ va_S.rf hP hK hU hW (Or.inr rfl) [0, 1, 2, 3, 4] rfl⟩⟩ rfl rfl hl.1 rfl (lv_room (Nat.le_of_ble_eq_true rfl)) dX5_isThere_4 ⟨(Nat.le_of_ble_eq_true rfl), (Nat.le_of_ble_eq_true rfl)⟩) ?_
  refine lv_if_ne (tgt := 14) hx hb dX5_isThere_7 (by decide) (fun c2 => ?_) (fun c2 => ?_)
  · have hf := ie hf c2
    refine lv_iconst (v := 0) hx hb dX5_isThere_14 (by decide) ?_
    exact W.zret hx hb hr (zn (Or.inl rfl)) (fun t ht _ => ⟨_, rfl, ⟨Option.some.inj hf, (Or.inl rfl)⟩, ht⟩) (fun q hq => absurd hq List.not_mem_nil) dX5_isThere_15
  · have hf := it hf c2
    refine lv_iconst (v := 1) hx hb dX5_isThere_10 (by decide) ?_
    refine lv_goto (tgt := 15) hx hb dX5_isThere_11 (by decide) ?_
    exact W.zret hx hb hr (zn (Or.inr rfl)) (fun t ht _ => ⟨_, rfl, ⟨Option.some.inj hf, (Or.inr rfl)⟩, ht⟩) (fun q hq => absurd hq List.not_mem_nil) dX5_isThere_15
set_option maxHeartbeats 4000000 in
set_option maxRecDepth 100000 in
theorem m_X5_isSunk (l : Launch) (D : va_G) (cI cJ cO : ClassId) (hm : Nat) (mh : Nat) (mo : Nat) (my : Nat) (mp : Nat) (M : Nat → Int32) (mc : Int64) (mhol : Nat → Int32) (mof : Nat → Int32) (mdy : Nat → Int32) (mpd : Nat → Int64) (a0 : Int32) (a1 : Int32) (r : Int32) (hf : f_X5_isSunk mof mdy a0 a1 = some r) : Met l yX5_isSunk wsX5_isSunk ({ frames := 1, cells := 0, slots := 0, locals := 22 }) (va_Pc [.ref hm, .int a0, .int a1] (pw D (ty3 cI cJ cO) none [eM hm mh mo my mp M mc, eH cI mh mhol, eO cI mo mof, eY cI my mdy, eP cJ mp mpd])) (QSz r) 0 0 (fun _ => False) := by
  refine Met.ofW (cc := cX5_isSunk) (maxL := 3) (ret := (some .boolean)) (by decide) rfl ?_
  intro p e s m args below meth c s₁ Bd hml hv
  obtain ⟨rfl, hZ, hP, hK⟩ := hv
  have hx := Bd.exec
  have hb := Bd.bytes
  have hr := Bd.returns
  have hts := atoms_spec (ws := wsX5_isSunk) Bd.pre
  have hown : s.vm.findClass RX5 = some m.cls := findClass_of_methodNamed Bd.named
  have hlocks := Bd.notSynchronized
  have hl := lv_entry ([.ref hm, .int a0, .int a1]) (n := 3) (Nat.le_of_ble_eq_true rfl)
  rw [lg_entry_eq]
  generalize (lg_sl ([.ref hm, .int a0, .int a1]) ++ List.replicate (3 - (lg_sl ([.ref hm, .int a0, .int a1])).length) Slot.unset).toArray = ls at hl ⊢
  have hl : lv_has ls 3 [(0, .ref hm), (1, .int a0), (2, .int a1)] := hl
  unfold f_X5_isSunk at hf
  refine lv_aload_n hx hb dX5_isSunk_0 rfl (lv_at hl 0 rfl) ?_
  refine lv_iload_n hx hb dX5_isSunk_1 rfl (lv_at hl 1 rfl) ?_
  refine lv_bipush (v := 11) hx hb dX5_isSunk_2 (by decide) ?_
  obtain ⟨v1, hv1, hf⟩ := ob hf
  refine cSi (W.runV (As := [.int a0, .int 11]) (rest := []) ⟨hx, hb, hml, hown, hts⟩ (m_X5_own l D cI cJ cO hm mh mo my mp M mc mhol mof mdy mpd a0 11 v1 hv1) (cwV 2 hts gX5_isSunk_X5_own rfl rfl rfl (by decide +kernel) ⟨(Nat.le_of_ble_eq_true rfl), (Nat.le_of_ble_eq_true rfl)⟩) ⟨pw_blind, va_recv hK hP (ci := 4) (q0 := 0) rfl rfl, fun U hU hW => ⟨rfl, pw_at hZ va_S.rf hP hK hU hW (Or.inr rfl) [0, 1, 2, 3, 4] rfl⟩⟩ rfl rfl hl.1 rfl (lv_room (Nat.le_of_ble_eq_true rfl)) dX5_isSunk_4 ⟨(Nat.le_of_ble_eq_true rfl), (Nat.le_of_ble_eq_true rfl)⟩) ?_
  refine lv_if_le (tgt := 43) hx hb dX5_isSunk_7 (by decide) (fun c2 => ?_) (fun c2 => ?_)
  · have hf := it hf c2
    refine lv_iconst (v := 0) hx hb dX5_isSunk_43 (by decide) ?_
    exact W.zret hx hb hr (zn (Or.inl rfl)) (fun t ht _ => ⟨_, rfl, ⟨Option.some.inj hf, (Or.inl rfl)⟩, ht⟩) (fun q hq => absurd hq List.not_mem_nil) dX5_isSunk_44
  · have hf := ie hf c2
    refine lv_iload_n hx hb dX5_isSunk_10 rfl (lv_at hl 2 rfl) ?_
    refine lv_aload_n hx hb dX5_isSunk_11 rfl (lv_at hl 0 rfl) ?_
    refine lv_iload_n hx hb dX5_isSunk_12 rfl (lv_at hl 1 rfl) ?_
    refine lv_bipush (v := 6) hx hb dX5_isSunk_13 (by decide) ?_
    obtain ⟨v3, hv3, hf⟩ := ob hf
    refine cSi (W.runV (As := [.int a0, .int 6]) (rest := [.int a1]) ⟨hx, hb, hml, hown, hts⟩ (m_X5_own l D cI cJ cO hm mh mo my mp M mc mhol mof mdy mpd a0 6 v3 hv3) (cwV 2 hts gX5_isSunk_X5_own rfl rfl rfl (by decide +kernel) ⟨(Nat.le_of_ble_eq_true rfl), (Nat.le_of_ble_eq_true rfl)⟩) ⟨pw_blind, va_recv hK hP (ci := 4) (q0 := 0) rfl rfl, fun U hU hW => ⟨rfl, pw_at hZ va_S.rf hP hK hU hW (Or.inr rfl) [0, 1, 2, 3, 4] rfl⟩⟩ rfl rfl hl.1 rfl (lv_room (Nat.le_of_ble_eq_true rfl)) dX5_isSunk_15 ⟨(Nat.le_of_ble_eq_true rfl), (Nat.le_of_ble_eq_true rfl)⟩) ?_
    refine lv_iconst (v := 1) hx hb dX5_isSunk_18 (by decide) ?_
    refine lv_isub hx hb dX5_isSunk_19 ?_
    refine lv_icmp_ge (tgt := 43) hx hb dX5_isSunk_20 (by decide) (fun c4 => ?_) (fun c4 => ?_)
    · have hf := it hf c4
      refine lv_iconst (v := 0) hx hb dX5_isSunk_43 (by decide) ?_
      exact W.zret hx hb hr (zn (Or.inl rfl)) (fun t ht _ => ⟨_, rfl, ⟨Option.some.inj hf, (Or.inl rfl)⟩, ht⟩) (fun q hq => absurd hq List.not_mem_nil) dX5_isSunk_44
    · have hf := ie hf c4
      refine lv_aload_n hx hb dX5_isSunk_23 rfl (lv_at hl 0 rfl) ?_
      refine lv_iload_n hx hb dX5_isSunk_24 rfl (lv_at hl 1 rfl) ?_
      refine lv_iload_n hx hb dX5_isSunk_25 rfl (lv_at hl 2 rfl) ?_
      obtain ⟨v5, hv5, hf⟩ := ob hf
      refine cSi (W.runV (As := [.int a0, .int a1]) (rest := []) ⟨hx, hb, hml, hown, hts⟩ (m_X5_couponDay l D cI cJ cO hm mh mo my mp M mc mhol mof mdy mpd a0 a1 v5 hv5) (cwV 2 hts gX5_isSunk_X5_couponDay rfl rfl rfl (by decide +kernel) ⟨(Nat.le_of_ble_eq_true rfl), (Nat.le_of_ble_eq_true rfl)⟩) ⟨pw_blind, va_recv hK hP (ci := 4) (q0 := 0) rfl rfl, fun U hU hW => ⟨rfl, pw_at hZ va_S.rf hP hK hU hW (Or.inr rfl) [0, 1, 2, 3, 4] rfl⟩⟩ rfl rfl hl.1 rfl (lv_room (Nat.le_of_ble_eq_true rfl)) dX5_isSunk_26 ⟨(Nat.le_of_ble_eq_true rfl), (Nat.le_of_ble_eq_true rfl)⟩) ?_
      refine lv_aload_n hx hb dX5_isSunk_29 rfl (lv_at hl 0 rfl) ?_
      refine lv_iload_n hx hb dX5_isSunk_30 rfl (lv_at hl 1 rfl) ?_
      refine lv_bipush (v := 10) hx hb dX5_isSunk_31 (by decide) ?_
      obtain ⟨v6, hv6, hf⟩ := ob hf
      refine cSi (W.runV (As := [.int a0, .int 10]) (rest := [.int v5]) ⟨hx, hb, hml, hown, hts⟩ (m_X5_own l D cI cJ cO hm mh mo my mp M mc mhol mof mdy mpd a0 10 v6 hv6) (cwV 2 hts gX5_isSunk_X5_own rfl rfl rfl (by decide +kernel) ⟨(Nat.le_of_ble_eq_true rfl), (Nat.le_of_ble_eq_true rfl)⟩) ⟨pw_blind, va_recv hK hP (ci := 4) (q0 := 0) rfl rfl, fun U hU hW => ⟨rfl, pw_at hZ va_S.rf hP hK hU hW (Or.inr rfl) [0, 1, 2, 3, 4] rfl⟩⟩ rfl rfl hl.1 rfl (lv_room (Nat.le_of_ble_eq_true rfl)) dX5_isSunk_33 ⟨(Nat.le_of_ble_eq_true rfl), (Nat.le_of_ble_eq_true rfl)⟩) ?_
      refine lv_icmp_lt (tgt := 43) hx hb dX5_isSunk_36 (by decide) (fun c7 => ?_) (fun c7 => ?_)
      · have hf := it hf c7
        refine lv_iconst (v := 0) hx hb dX5_isSunk_43 (by decide) ?_
        exact W.zret hx hb hr (zn (Or.inl rfl)) (fun t ht _ => ⟨_, rfl, ⟨Option.some.inj hf, (Or.inl rfl)⟩, ht⟩) (fun q hq => absurd hq List.not_mem_nil) dX5_isSunk_44
      · have hf := ie hf c7
        refine lv_iconst (v := 1) hx hb dX5_isSunk_39 (by decide) ?_
        refine lv_goto (tgt := 44) hx hb dX5_isSunk_40 (by decide) ?_
        exact W.zret hx hb hr (zn (Or.inr rfl)) (fun t ht _ => ⟨_, rfl, ⟨Option.some.inj hf, (Or.inr rfl)⟩, ht⟩) (fun q hq => absurd hq List.not_mem_nil) dX5_isSunk_44
set_option maxHeartbeats 4000000 in
set_option maxRecDepth 100000 in
theorem m_X5_isCalled (l : Launch) (D : va_G) (cI cJ cO : ClassId) (hm : Nat) (mh : Nat) (mo : Nat) (my : Nat) (mp : Nat) (M : Nat → Int32) (mc : Int64) (mhol : Nat → Int32) (mof : Nat → Int32) (mdy : Nat → Int32) (mpd : Nat → Int64) (a0 : Int32) (a1 : Int32) (r : Int32) (hf : f_X5_isCalled mof mdy a0 a1 = some r) : Met l yX5_isCalled wsX5_isCalled ({ frames := 1, cells := 0, slots := 0, locals := 22 }) (va_Pc [.ref hm, .int a0, .int a1] (pw D (ty3 cI cJ cO) none [eM hm mh mo my mp M mc, eH cI mh mhol, eO cI mo mof, eY cI my mdy, eP cJ mp mpd])) (QSz r) 0 0 (fun _ => False) := by
  refine Met.ofW (cc := cX5_isCalled) (maxL := 3) (ret := (some .boolean)) (by decide) rfl ?_
  intro p e s m args below meth c s₁ Bd hml hv
  obtain ⟨rfl, hZ, hP, hK⟩ := hv
  have hx := Bd.exec
  have hb := Bd.bytes
  have hr := Bd.returns
  have hts := atoms_spec (ws := wsX5_isCalled) Bd.pre
  have hown : s.vm.findClass RX5 = some m.cls := findClass_of_methodNamed Bd.named
  have hlocks := Bd.notSynchronized
  have hl := lv_entry ([.ref hm, .int a0, .int a1]) (n := 3) (Nat.le_of_ble_eq_true rfl)
  rw [lg_entry_eq]
  generalize (lg_sl ([.ref hm, .int a0, .int a1]) ++ List.replicate (3 - (lg_sl ([.ref hm, .int a0, .int a1])).length) Slot.unset).toArray = ls at hl ⊢
  have hl : lv_has ls 3 [(0, .ref hm), (1, .int a0), (2, .int a1)] := hl
  unfold f_X5_isCalled at hf
  refine lv_aload_n hx hb dX5_isCalled_0 rfl (lv_at hl 0 rfl) ?_
  refine lv_iload_n hx hb dX5_isCalled_1 rfl (lv_at hl 1 rfl) ?_
  refine lv_bipush (v := 13) hx hb dX5_isCalled_2 (by decide) ?_
  obtain ⟨v1, hv1, hf⟩ := ob hf
  refine cSi (W.runV (As := [.int a0, .int 13]) (rest := []) ⟨hx, hb, hml, hown, hts⟩ (m_X5_own l D cI cJ cO hm mh mo my mp M mc mhol mof mdy mpd a0 13 v1 hv1) (cwV 2 hts gX5_isCalled_X5_own rfl rfl rfl (by decide +kernel) ⟨(Nat.le_of_ble_eq_true rfl), (Nat.le_of_ble_eq_true rfl)⟩) ⟨pw_blind, va_recv hK hP (ci := 4) (q0 := 0) rfl rfl, fun U hU hW => ⟨rfl, pw_at hZ va_S.rf hP hK hU hW (Or.inr rfl) [0, 1, 2, 3, 4] rfl⟩⟩ rfl rfl hl.1 rfl (lv_room (Nat.le_of_ble_eq_true rfl)) dX5_isCalled_4 ⟨(Nat.le_of_ble_eq_true rfl), (Nat.le_of_ble_eq_true rfl)⟩) ?_
  refine lv_if_le (tgt := 43) hx hb dX5_isCalled_7 (by decide) (fun c2 => ?_) (fun c2 => ?_)
  · have hf := it hf c2
    refine lv_iconst (v := 0) hx hb dX5_isCalled_43 (by decide) ?_
    exact W.zret hx hb hr (zn (Or.inl rfl)) (fun t ht _ => ⟨_, rfl, ⟨Option.some.inj hf, (Or.inl rfl)⟩, ht⟩) (fun q hq => absurd hq List.not_mem_nil) dX5_isCalled_44
  · have hf := ie hf c2
    refine lv_iload_n hx hb dX5_isCalled_10 rfl (lv_at hl 2 rfl) ?_
    refine lv_aload_n hx hb dX5_isCalled_11 rfl (lv_at hl 0 rfl) ?_
    refine lv_iload_n hx hb dX5_isCalled_12 rfl (lv_at hl 1 rfl) ?_
    refine lv_bipush (v := 6) hx hb dX5_isCalled_13 (by decide) ?_
    obtain ⟨v3, hv3, hf⟩ := ob hf
    refine cSi (W.runV (As := [.int a0, .int 6]) (rest := [.int a1]) ⟨hx, hb, hml, hown, hts⟩ (m_X5_own l D cI cJ cO hm mh mo my mp M mc mhol mof mdy mpd a0 6 v3 hv3) (cwV 2 hts gX5_isCalled_X5_own rfl rfl rfl (by decide +kernel) ⟨(Nat.le_of_ble_eq_true rfl), (Nat.le_of_ble_eq_true rfl)⟩) ⟨pw_blind, va_recv hK hP (ci := 4) (q0 := 0) rfl rfl, fun U hU hW => ⟨rfl, pw_at hZ va_S.rf hP hK hU hW (Or.inr rfl) [0, 1, 2, 3, 4] rfl⟩⟩ rfl rfl hl.1 rfl (lv_room (Nat.le_of_ble_eq_true rfl)) dX5_isCalled_15 ⟨(Nat.le_of_ble_eq_true rfl), (Nat.le_of_ble_eq_true rfl)⟩) ?_
    refine lv_iconst (v := 1) hx hb dX5_isCalled_18 (by decide) ?_
    refine lv_isub hx hb dX5_isCalled_19 ?_
    refine lv_icmp_ge (tgt := 43) hx hb dX5_isCalled_20 (by decide) (fun c4 => ?_) (fun c4 => ?_)
    · have hf := it hf c4
      refine lv_iconst (v := 0) hx hb dX5_isCalled_43 (by decide) ?_
      exact W.zret hx hb hr (zn (Or.inl rfl)) (fun t ht _ => ⟨_, rfl, ⟨Option.some.inj hf, (Or.inl rfl)⟩, ht⟩) (fun q hq => absurd hq List.not_mem_nil) dX5_isCalled_44
    · have hf := ie hf c4
      refine lv_aload_n hx hb dX5_isCalled_23 rfl (lv_at hl 0 rfl) ?_
      refine lv_iload_n hx hb dX5_isCalled_24 rfl (lv_at hl 1 rfl) ?_
      refine lv_iload_n hx hb dX5_isCalled_25 rfl (lv_at hl 2 rfl) ?_
      obtain ⟨v5, hv5, hf⟩ := ob hf
      refine cSi (W.runV (As := [.int a0, .int a1]) (rest := []) ⟨hx, hb, hml, hown, hts⟩ (m_X5_couponDay l D cI cJ cO hm mh mo my mp M mc mhol mof mdy mpd a0 a1 v5 hv5) (cwV 2 hts gX5_isCalled_X5_couponDay rfl rfl rfl (by decide +kernel) ⟨(Nat.le_of_ble_eq_true rfl), (Nat.le_of_ble_eq_true rfl)⟩) ⟨pw_blind, va_recv hK hP (ci := 4) (q0 := 0) rfl rfl, fun U hU hW => ⟨rfl, pw_at hZ va_S.rf hP hK hU hW (Or.inr rfl) [0, 1, 2, 3, 4] rfl⟩⟩ rfl rfl hl.1 rfl (lv_room (Nat.le_of_ble_eq_true rfl)) dX5_isCalled_26 ⟨(Nat.le_of_ble_eq_true rfl), (Nat.le_of_ble_eq_true rfl)⟩) ?_
      refine lv_aload_n hx hb dX5_isCalled_29 rfl (lv_at hl 0 rfl) ?_
      refine lv_iload_n hx hb dX5_isCalled_30 rfl (lv_at hl 1 rfl) ?_
      refine lv_bipush (v := 12) hx hb dX5_isCalled_31 (by decide) ?_
      obtain ⟨v6, hv6, hf⟩ := ob hf
      refine cSi (W.runV (As := [.int a0, .int 12]) (rest := [.int v5]) ⟨hx, hb, hml, hown, hts⟩ (m_X5_own l D cI cJ cO hm mh mo my mp M mc mhol mof mdy mpd a0 12 v6 hv6) (cwV 2 hts gX5_isCalled_X5_own rfl rfl rfl (by decide +kernel) ⟨(Nat.le_of_ble_eq_true rfl), (Nat.le_of_ble_eq_true rfl)⟩) ⟨pw_blind, va_recv hK hP (ci := 4) (q0 := 0) rfl rfl, fun U hU hW => ⟨rfl, pw_at hZ va_S.rf hP hK hU hW (Or.inr rfl) [0, 1, 2, 3, 4] rfl⟩⟩ rfl rfl hl.1 rfl (lv_room (Nat.le_of_ble_eq_true rfl)) dX5_isCalled_33 ⟨(Nat.le_of_ble_eq_true rfl), (Nat.le_of_ble_eq_true rfl)⟩) ?_
      refine lv_icmp_lt (tgt := 43) hx hb dX5_isCalled_36 (by decide) (fun c7 => ?_) (fun c7 => ?_)
      · have hf := it hf c7
        refine lv_iconst (v := 0) hx hb dX5_isCalled_43 (by decide) ?_
        exact W.zret hx hb hr (zn (Or.inl rfl)) (fun t ht _ => ⟨_, rfl, ⟨Option.some.inj hf, (Or.inl rfl)⟩, ht⟩) (fun q hq => absurd hq List.not_mem_nil) dX5_isCalled_44
      · have hf := ie hf c7
        refine lv_iconst (v := 1) hx hb dX5_isCalled_39 (by decide) ?_
        refine lv_goto (tgt := 44) hx hb dX5_isCalled_40 (by decide) ?_
        exact W.zret hx hb hr (zn (Or.inr rfl)) (fun t ht _ => ⟨_, rfl, ⟨Option.some.inj hf, (Or.inr rfl)⟩, ht⟩) (fun q hq => absurd hq List.not_mem_nil) dX5_isCalled_44
set_option maxHeartbeats 4000000 in
set_option maxRecDepth 100000 in
theorem m_X5_leftBehind (l : Launch) (D : va_G) (cI cJ cO : ClassId) (hm : Nat) (mh : Nat) (mo : Nat) (my : Nat) (mp : Nat) (M : Nat → Int32) (mc : Int64) (mhol : Nat → Int32) (mof : Nat → Int32) (mdy : Nat → Int32) (mpd : Nat → Int64) (a0 : Int32) (a1 : Int32) (N : Nat) (r : Int32) (hf : f_X5_leftBehind N mof mdy a0 a1 = some r) : Met l yX5_leftBehind wsX5_leftBehind ({ frames := 2, cells := 0, slots := 0, locals := 44 }) (va_Pc [.ref hm, .int a0, .int a1] (pw D (ty3 cI cJ cO) none [eM hm mh mo my mp M mc, eH cI mh mhol, eO cI mo mof, eY cI my mdy, eP cJ mp mpd])) (QSi r) 0 0 (fun _ => False) := by
  refine Met.ofW (cc := cX5_leftBehind) (maxL := 5) (ret := (some .int)) (by decide) rfl ?_
  intro p e s m args below meth c s₁ Bd hml hv
  obtain ⟨rfl, hZ, hP, hK⟩ := hv
  have hx := Bd.exec
  have hb := Bd.bytes
  have hr := Bd.returns
  have hts := atoms_spec (ws := wsX5_leftBehind) Bd.pre
  have hown : s.vm.findClass RX5 = some m.cls := findClass_of_methodNamed Bd.named
  have hlocks := Bd.notSynchronized
  have hl := lv_entry ([.ref hm, .int a0, .int a1]) (n := 5) (Nat.le_of_ble_eq_true rfl)
  rw [lg_entry_eq]
  generalize (lg_sl ([.ref hm, .int a0, .int a1]) ++ List.replicate (5 - (lg_sl ([.ref hm, .int a0, .int a1])).length) Slot.unset).toArray = ls at hl ⊢
  have hl : lv_has ls 5 [(0, .ref hm), (1, .int a0), (2, .int a1)] := hl
  unfold f_X5_leftBehind at hf
  refine lv_aload_n hx hb dX5_leftBehind_0 rfl (lv_at hl 0 rfl) ?_
  refine lv_iload_n hx hb dX5_leftBehind_1 rfl (lv_at hl 1 rfl) ?_
  refine lv_iconst (v := 5) hx hb dX5_leftBehind_2 (by decide) ?_
  obtain ⟨v1, hv1, hf⟩ := ob hf
  refine cSi (W.runV (As := [.int a0, .int 5]) (rest := []) ⟨hx, hb, hml, hown, hts⟩ (m_X5_own l D cI cJ cO hm mh mo my mp M mc mhol mof mdy mpd a0 5 v1 hv1) (cwV 2 hts gX5_leftBehind_X5_own rfl rfl rfl (by decide +kernel) ⟨(Nat.le_of_ble_eq_true rfl), (Nat.le_of_ble_eq_true rfl)⟩) ⟨pw_blind, va_recv hK hP (ci := 4) (q0 := 0) rfl rfl, fun U hU hW => ⟨rfl, pw_at hZ va_S.rf hP hK hU hW (Or.inr rfl) [0, 1, 2, 3, 4] rfl⟩⟩ rfl rfl hl.1 rfl (lv_room (Nat.le_of_ble_eq_true rfl)) dX5_leftBehind_3 ⟨(Nat.le_of_ble_eq_true rfl), (Nat.le_of_ble_eq_true rfl)⟩) ?_
  refine lv_istore_n (lv' := [(3, .int v1), (0, .ref hm), (1, .int a0), (2, .int a1)]) hx hb dX5_leftBehind_6 rfl hl (by decide) rfl (fun ls hl => ?_)
  refine lv_aload_n hx hb dX5_leftBehind_7 rfl (lv_at hl 1 rfl) ?_
  refine lv_iload_n hx hb dX5_leftBehind_8 rfl (lv_at hl 2 rfl) ?_
  refine lv_bipush (v := 7) hx hb dX5_leftBehind_9 (by decide) ?_
  obtain ⟨v2, hv2, hf⟩ := ob hf
  refine cSi (W.runV (As := [.int a0, .int 7]) (rest := []) ⟨hx, hb, hml, hown, hts⟩ (m_X5_own l D cI cJ cO hm mh mo my mp M mc mhol mof mdy mpd a0 7 v2 hv2) (cwV 2 hts gX5_leftBehind_X5_own rfl rfl rfl (by decide +kernel) ⟨(Nat.le_of_ble_eq_true rfl), (Nat.le_of_ble_eq_true rfl)⟩) ⟨pw_blind, va_recv hK hP (ci := 4) (q0 := 0) rfl rfl, fun U hU hW => ⟨rfl, pw_at hZ va_S.rf hP hK hU hW (Or.inr rfl) [0, 1, 2, 3, 4] rfl⟩⟩ rfl rfl hl.1 rfl (lv_room (Nat.le_of_ble_eq_true rfl)) dX5_leftBehind_11 ⟨(Nat.le_of_ble_eq_true rfl), (Nat.le_of_ble_eq_true rfl)⟩) ?_
  refine lv_istore (lv' := [(4, .int v2), (3, .int v1), (0, .ref hm), (1, .int a0), (2, .int a1)]) hx hb dX5_leftBehind_14 hl (by decide) rfl (fun ls hl => ?_)
  have LP16 : ∀ (n5 : Nat) (x3 : Int32) (x4 : Int32) (ls : Array Slot), lv_has ls 5 [(0, .ref hm), (1, .int a0), (2, .int a1), (3, .int x3), (4, .int x4)] → f_X5_leftBehind_L16 a1 mof mdy a0 n5 x3 x4 = some r → W p l e (headSpec wsX5_leftBehind ({ frames := 2, cells := 0, slots := 0, locals := 44 })).room s m ([.ref hm, .int a0, .int a1] : List Value).toArray below meth c s.heap [] 0 0 (MQ below (QSi r) ([.ref hm, .int a0, .int a1] : List Value).toArray s 0 0 (fun _ => False)) (F0 m 16 ls []) := by
    intro n5
    induction n5 with
    | zero => intro x3 x4 ls hl hf; exact (no_s hf).elim
    | succ n5 ih5 =>
      intro x3 x4 ls hl hf
      rw [f_X5_leftBehind_L16] at hf
      refine lv_iload hx hb dX5_leftBehind_16 (lv_at hl 4 rfl) ?_
      refine lv_iload_n hx hb dX5_leftBehind_18 rfl (lv_at hl 2 rfl) ?_
      refine lv_icmp_gt (tgt := 52) hx hb dX5_leftBehind_19 (by decide) (fun c6 => ?_) (fun c6 => ?_)
      · have hf := it hf c6
        refine lv_iload_n hx hb dX5_leftBehind_52 rfl (lv_at hl 3 rfl) ?_
        exact W.iret hx hb hr (fun t ht _ => ⟨_, rfl, Option.some.inj hf, ht⟩) (fun q hq => absurd hq List.not_mem_nil) dX5_leftBehind_53
      · have hf := ie hf c6
        refine lv_aload_n hx hb dX5_leftBehind_22 rfl (lv_at hl 0 rfl) ?_
        refine lv_iload_n hx hb dX5_leftBehind_23 rfl (lv_at hl 1 rfl) ?_
        refine lv_iload hx hb dX5_leftBehind_24 (lv_at hl 4 rfl) ?_
        obtain ⟨v7, hv7, hf⟩ := ob hf
        refine cSz (W.runV (As := [.int a0, .int x4]) (rest := []) ⟨hx, hb, hml, hown, hts⟩ (m_X5_isSunk l D cI cJ cO hm mh mo my mp M mc mhol mof mdy mpd a0 x4 v7 hv7) (cwV 2 hts gX5_leftBehind_X5_isSunk rfl rfl rfl (by decide +kernel) ⟨(Nat.le_of_ble_eq_true rfl), (Nat.le_of_ble_eq_true rfl)⟩) ⟨pw_blind, va_recv hK hP (ci := 4) (q0 := 0) rfl rfl, fun U hU hW => ⟨rfl, pw_at hZ va_S.rf hP hK hU hW (Or.inr rfl) [0, 1, 2, 3, 4] rfl⟩⟩ rfl rfl hl.1 rfl (lv_room (Nat.le_of_ble_eq_true rfl)) dX5_leftBehind_26 ⟨(Nat.le_of_ble_eq_true rfl), (Nat.le_of_ble_eq_true rfl)⟩) (fun zv7 => ?_)
        refine lv_if_eq (tgt := 46) hx hb dX5_leftBehind_29 (by decide) (fun c8 => ?_) (fun c8 => ?_)
        · have hf := it hf c8
          obtain ⟨x9, ex9⟩ : ∃ y : Int32, y = x4 + 1 := ⟨_, rfl⟩
          have hf := bd_s hf ex9
          refine lv_iinc (v := x9) (lv' := [(4, .int x9), (0, .ref hm), (1, .int a0), (2, .int a1), (3, .int x3)]) hx hb dX5_leftBehind_46 hl (k := 4) rfl (by rw [ex9]; rfl) (by decide) rfl (fun ls hl => ?_)
          refine lv_goto (tgt := 16) hx hb dX5_leftBehind_49 (by decide) ?_
          exact ih5 x3 x9 ls (lv_sub hl [1, 2, 3, 4, 0] rfl) hf
        · have hf := ie hf c8
          refine lv_iconst (v := 0) hx hb dX5_leftBehind_32 (by decide) ?_
          refine lv_iload_n hx hb dX5_leftBehind_33 rfl (lv_at hl 3 rfl) ?_
          refine lv_aload_n hx hb dX5_leftBehind_34 rfl (lv_at hl 0 rfl) ?_
          refine lv_iload_n hx hb dX5_leftBehind_35 rfl (lv_at hl 1 rfl) ?_
          refine lv_bipush (v := 11) hx hb dX5_leftBehind_36 (by decide) ?_
          obtain ⟨v10, hv10, hf⟩ := ob hf
          refine cSi (W.runV (As := [.int a0, .int 11]) (rest := [.int x3, .int 0]) ⟨hx, hb, hml, hown, hts⟩ (m_X5_own l D cI cJ cO hm mh mo my mp M mc mhol mof mdy mpd a0 11 v10 hv10) (cwV 2 hts gX5_leftBehind_X5_own rfl rfl rfl (by decide +kernel) ⟨(Nat.le_of_ble_eq_true rfl), (Nat.le_of_ble_eq_true rfl)⟩) ⟨pw_blind, va_recv hK hP (ci := 4) (q0 := 0) rfl rfl, fun U hU hW => ⟨rfl, pw_at hZ va_S.rf hP hK hU hW (Or.inr rfl) [0, 1, 2, 3, 4] rfl⟩⟩ rfl rfl hl.1 rfl (lv_room (Nat.le_of_ble_eq_true rfl)) dX5_leftBehind_38 ⟨(Nat.le_of_ble_eq_true rfl), (Nat.le_of_ble_eq_true rfl)⟩) ?_
          refine lv_isub hx hb dX5_leftBehind_41 ?_
          refine va_mmax hx hb (hml.trans hl.1.symm) hown (hts (.methodLink RX5 104 Lib.Math.max.name) (by decide +kernel)) (hts (.static Lib.Math.max.name) (by decide +kernel)) (hts (.initialized "java/lang/Math") (by decide +kernel)) (hts (.code Lib.Math.max.name Lib.Math.max.code 2 (some .int)) (by decide +kernel)) (Nat.le_of_ble_eq_true rfl) (Nat.le_of_ble_eq_true rfl) (Nat.le_of_ble_eq_true rfl) (Nat.le_of_ble_eq_true rfl) dX5_leftBehind_42 ?_
          refine lv_topi (fun x11 ex11 => ?_)
          have hf := bd_s hf ex11
          refine lv_istore_n (lv' := [(3, .int x11), (0, .ref hm), (1, .int a0), (2, .int a1), (4, .int x4)]) hx hb dX5_leftBehind_45 rfl hl (by decide) rfl (fun ls hl => ?_)
          obtain ⟨x12, ex12⟩ : ∃ y : Int32, y = x4 + 1 := ⟨_, rfl⟩
          have hf := bd_s hf ex12
          refine lv_iinc (v := x12) (lv' := [(4, .int x12), (3, .int x11), (0, .ref hm), (1, .int a0), (2, .int a1)]) hx hb dX5_leftBehind_46 hl (k := 4) rfl (by rw [ex12]; rfl) (by decide) rfl (fun ls hl => ?_)
          refine lv_goto (tgt := 16) hx hb dX5_leftBehind_49 (by decide) ?_
          exact ih5 x11 x12 ls (lv_sub hl [2, 3, 4, 1, 0] rfl) hf
  exact LP16 N v1 v2 ls (lv_sub hl [2, 3, 4, 1, 0] rfl) hf
set_option maxHeartbeats 4000000 in
set_option maxRecDepth 100000 in
theorem m_X5_firstCall (l : Launch) (D : va_G) (cI cJ cO : ClassId) (hm : Nat) (mh : Nat) (mo : Nat) (my : Nat) (mp : Nat) (M : Nat → Int32) (mc : Int64) (mhol : Nat → Int32) (mof : Nat → Int32) (mdy : Nat → Int32) (mpd : Nat → Int64) (a0 : Int32) (N : Nat) (r : Int32) (hf : f_X5_firstCall N mof mdy a0 = some r) : Met l yX5_firstCall wsX5_firstCall ({ frames := 2, cells := 0, slots := 0, locals := 44 }) (va_Pc [.ref hm, .int a0] (pw D (ty3 cI cJ cO) none [eM hm mh mo my mp M mc, eH cI mh mhol, eO cI mo mof, eY cI my mdy, eP cJ mp mpd])) (QSi r) 0 0 (fun _ => False) := by
  refine Met.ofW (cc := cX5_firstCall) (maxL := 3) (ret := (some .int)) (by decide) rfl ?_
  intro p e s m args below meth c s₁ Bd hml hv
  obtain ⟨rfl, hZ, hP, hK⟩ := hv
  have hx := Bd.exec
  have hb := Bd.bytes
  have hr := Bd.returns
  have hts := atoms_spec (ws := wsX5_firstCall) Bd.pre
  have hown : s.vm.findClass RX5 = some m.cls := findClass_of_methodNamed Bd.named
  have hlocks := Bd.notSynchronized
  have hl := lv_entry ([.ref hm, .int a0]) (n := 3) (Nat.le_of_ble_eq_true rfl)
  rw [lg_entry_eq]
  generalize (lg_sl ([.ref hm, .int a0]) ++ List.replicate (3 - (lg_sl ([.ref hm, .int a0])).length) Slot.unset).toArray = ls at hl ⊢
  have hl : lv_has ls 3 [(0, .ref hm), (1, .int a0)] := hl
  unfold f_X5_firstCall at hf
  refine lv_aload_n hx hb dX5_firstCall_0 rfl (lv_at hl 0 rfl) ?_
  refine lv_iload_n hx hb dX5_firstCall_1 rfl (lv_at hl 1 rfl) ?_
  obtain ⟨v1, hv1, hf⟩ := ob hf
  refine cSz (W.runV (As := [.int a0]) (rest := []) ⟨hx, hb, hml, hown, hts⟩ (m_X5_isThere l D cI cJ cO hm mh mo my mp M mc mhol mof mdy mpd a0 v1 hv1) (cwV 1 hts gX5_firstCall_X5_isThere rfl rfl rfl (by decide +kernel) ⟨(Nat.le_of_ble_eq_true rfl), (Nat.le_of_ble_eq_true rfl)⟩) ⟨pw_blind, va_recv hK hP (ci := 4) (q0 := 0) rfl rfl, fun U hU hW => ⟨rfl, pw_at hZ va_S.rf hP hK hU hW (Or.inr rfl) [0, 1, 2, 3, 4] rfl⟩⟩ rfl rfl hl.1 rfl (lv_room (Nat.le_of_ble_eq_true rfl)) dX5_firstCall_2 ⟨(Nat.le_of_ble_eq_true rfl), (Nat.le_of_ble_eq_true rfl)⟩) (fun zv1 => ?_)
  refine lv_if_ne (tgt := 10) hx hb dX5_firstCall_5 (by decide) (fun c2 => ?_) (fun c2 => ?_)
  · have hf := ie hf c2
    refine lv_aload_n hx hb dX5_firstCall_10 rfl (lv_at hl 0 rfl) ?_
    refine lv_iload_n hx hb dX5_firstCall_11 rfl (lv_at hl 1 rfl) ?_
    refine lv_bipush (v := 7) hx hb dX5_firstCall_12 (by decide) ?_
    obtain ⟨v3, hv3, hf⟩ := ob hf
    refine cSi (W.runV (As := [.int a0, .int 7]) (rest := []) ⟨hx, hb, hml, hown, hts⟩ (m_X5_own l D cI cJ cO hm mh mo my mp M mc mhol mof mdy mpd a0 7 v3 hv3) (cwV 2 hts gX5_firstCall_X5_own rfl rfl rfl (by decide +kernel) ⟨(Nat.le_of_ble_eq_true rfl), (Nat.le_of_ble_eq_true rfl)⟩) ⟨pw_blind, va_recv hK hP (ci := 4) (q0 := 0) rfl rfl, fun U hU hW => ⟨rfl, pw_at hZ va_S.rf hP hK hU hW (Or.inr rfl) [0, 1, 2, 3, 4] rfl⟩⟩ rfl rfl hl.1 rfl (lv_room (Nat.le_of_ble_eq_true rfl)) dX5_firstCall_14 ⟨(Nat.le_of_ble_eq_true rfl), (Nat.le_of_ble_eq_true rfl)⟩) ?_
    refine lv_istore_n (lv' := [(2, .int v3), (0, .ref hm), (1, .int a0)]) hx hb dX5_firstCall_17 rfl hl (by decide) rfl (fun ls hl => ?_)
    have LP18 : ∀ (n5 : Nat) (x4 : Int32) (ls : Array Slot), lv_has ls 3 [(0, .ref hm), (1, .int a0), (2, .int x4)] → f_X5_firstCall_L18 mof a0 mdy n5 x4 = some r → W p l e (headSpec wsX5_firstCall ({ frames := 2, cells := 0, slots := 0, locals := 44 })).room s m ([.ref hm, .int a0] : List Value).toArray below meth c s.heap [] 0 0 (MQ below (QSi r) ([.ref hm, .int a0] : List Value).toArray s 0 0 (fun _ => False)) (F0 m 18 ls []) := by
      intro n5
      induction n5 with
      | zero => intro x4 ls hl hf; exact (no_s hf).elim
      | succ n5 ih5 =>
        intro x4 ls hl hf
        rw [f_X5_firstCall_L18] at hf
        refine lv_iload_n hx hb dX5_firstCall_18 rfl (lv_at hl 2 rfl) ?_
        refine lv_aload_n hx hb dX5_firstCall_19 rfl (lv_at hl 0 rfl) ?_
        refine lv_iload_n hx hb dX5_firstCall_20 rfl (lv_at hl 1 rfl) ?_
        refine lv_bipush (v := 6) hx hb dX5_firstCall_21 (by decide) ?_
        obtain ⟨v6, hv6, hf⟩ := ob hf
        refine cSi (W.runV (As := [.int a0, .int 6]) (rest := [.int x4]) ⟨hx, hb, hml, hown, hts⟩ (m_X5_own l D cI cJ cO hm mh mo my mp M mc mhol mof mdy mpd a0 6 v6 hv6) (cwV 2 hts gX5_firstCall_X5_own rfl rfl rfl (by decide +kernel) ⟨(Nat.le_of_ble_eq_true rfl), (Nat.le_of_ble_eq_true rfl)⟩) ⟨pw_blind, va_recv hK hP (ci := 4) (q0 := 0) rfl rfl, fun U hU hW => ⟨rfl, pw_at hZ va_S.rf hP hK hU hW (Or.inr rfl) [0, 1, 2, 3, 4] rfl⟩⟩ rfl rfl hl.1 rfl (lv_room (Nat.le_of_ble_eq_true rfl)) dX5_firstCall_23 ⟨(Nat.le_of_ble_eq_true rfl), (Nat.le_of_ble_eq_true rfl)⟩) ?_
        refine lv_icmp_ge (tgt := 46) hx hb dX5_firstCall_26 (by decide) (fun c7 => ?_) (fun c7 => ?_)
        · have hf := it hf c7
          refine lv_iconst (v := (-1)) hx hb dX5_firstCall_46 (by decide) ?_
          exact W.iret hx hb hr (fun t ht _ => ⟨_, rfl, Option.some.inj hf, ht⟩) (fun q hq => absurd hq List.not_mem_nil) dX5_firstCall_47
        · have hf := ie hf c7
          refine lv_aload_n hx hb dX5_firstCall_29 rfl (lv_at hl 0 rfl) ?_
          refine lv_iload_n hx hb dX5_firstCall_30 rfl (lv_at hl 1 rfl) ?_
          refine lv_iload_n hx hb dX5_firstCall_31 rfl (lv_at hl 2 rfl) ?_
          obtain ⟨v8, hv8, hf⟩ := ob hf
          refine cSz (W.runV (As := [.int a0, .int x4]) (rest := []) ⟨hx, hb, hml, hown, hts⟩ (m_X5_isCalled l D cI cJ cO hm mh mo my mp M mc mhol mof mdy mpd a0 x4 v8 hv8) (cwV 2 hts gX5_firstCall_X5_isCalled rfl rfl rfl (by decide +kernel) ⟨(Nat.le_of_ble_eq_true rfl), (Nat.le_of_ble_eq_true rfl)⟩) ⟨pw_blind, va_recv hK hP (ci := 4) (q0 := 0) rfl rfl, fun U hU hW => ⟨rfl, pw_at hZ va_S.rf hP hK hU hW (Or.inr rfl) [0, 1, 2, 3, 4] rfl⟩⟩ rfl rfl hl.1 rfl (lv_room (Nat.le_of_ble_eq_true rfl)) dX5_firstCall_32 ⟨(Nat.le_of_ble_eq_true rfl), (Nat.le_of_ble_eq_true rfl)⟩) (fun zv8 => ?_)
          refine lv_if_eq (tgt := 40) hx hb dX5_firstCall_35 (by decide) (fun c9 => ?_) (fun c9 => ?_)
          · have hf := it hf c9
            obtain ⟨x10, ex10⟩ : ∃ y : Int32, y = x4 + 1 := ⟨_, rfl⟩
            have hf := bd_s hf ex10
            refine lv_iinc (v := x10) (lv' := [(2, .int x10), (0, .ref hm), (1, .int a0)]) hx hb dX5_firstCall_40 hl (k := 2) rfl (by rw [ex10]; rfl) (by decide) rfl (fun ls hl => ?_)
            refine lv_goto (tgt := 18) hx hb dX5_firstCall_43 (by decide) ?_
            exact ih5 x10 ls (lv_sub hl [1, 2, 0] rfl) hf
          · have hf := ie hf c9
            refine lv_iload_n hx hb dX5_firstCall_38 rfl (lv_at hl 2 rfl) ?_
            exact W.iret hx hb hr (fun t ht _ => ⟨_, rfl, Option.some.inj hf, ht⟩) (fun q hq => absurd hq List.not_mem_nil) dX5_firstCall_39
    exact LP18 N v3 ls (lv_sub hl [1, 2, 0] rfl) hf
  · have hf := it hf c2
    refine lv_iconst (v := (-1)) hx hb dX5_firstCall_8 (by decide) ?_
    exact W.iret hx hb hr (fun t ht _ => ⟨_, rfl, Option.some.inj hf, ht⟩) (fun q hq => absurd hq List.not_mem_nil) dX5_firstCall_9
set_option maxHeartbeats 4000000 in
set_option maxRecDepth 100000 in
theorem m_X5_told (l : Launch) (D : va_G) (cI cJ cO : ClassId) (hm : Nat) (mh : Nat) (mo : Nat) (my : Nat) (mp : Nat) (M : Nat → Int32) (mc : Int64) (mhol : Nat → Int32) (mof : Nat → Int32) (mdy : Nat → Int32) (mpd : Nat → Int64) (a0 : Int32) (a1 : Int32) (N : Nat) (r : Int32) (hf : f_X5_told N mof a0 a1 = some r) : Met l yX5_told wsX5_told ({ frames := 2, cells := 0, slots := 0, locals := 44 }) (va_Pc [.ref hm, .int a0, .int a1] (pw D (ty3 cI cJ cO) none [eM hm mh mo my mp M mc, eH cI mh mhol, eO cI mo mof, eY cI my mdy, eP cJ mp mpd])) (QSi r) 0 0 (fun _ => False) := by
  refine Met.ofW (cc := cX5_told) (maxL := 3) (ret := (some .int)) (by decide) rfl ?_
  intro p e s m args below meth c s₁ Bd hml hv
  obtain ⟨rfl, hZ, hP, hK⟩ := hv
  have hx := Bd.exec
  have hb := Bd.bytes
  have hr := Bd.returns
  have hts := atoms_spec (ws := wsX5_told) Bd.pre
  have hown : s.vm.findClass RX5 = some m.cls := findClass_of_methodNamed Bd.named
  have hlocks := Bd.notSynchronized
  have hl := lv_entry ([.ref hm, .int a0, .int a1]) (n := 3) (Nat.le_of_ble_eq_true rfl)
  rw [lg_entry_eq]
  generalize (lg_sl ([.ref hm, .int a0, .int a1]) ++ List.replicate (3 - (lg_sl ([.ref hm, .int a0, .int a1])).length) Slot.unset).toArray = ls at hl ⊢
  have hl : lv_has ls 3 [(0, .ref hm), (1, .int a0), (2, .int a1)] := hl
  unfold f_X5_told at hf
  refine lv_iload_n hx hb dX5_told_0 rfl (lv_at hl 2 rfl) ?_
  by_cases c1 : a1 = 0
  · have hf := it hf c1
    refine lv_tableIn (off := 59) (tgt := 60) hx hb dX5_told_1 (by rw [c1]; decide) (by rw [c1]; decide) (by rw [c1]; rfl) (by decide) ?_
    refine lv_aload_n hx hb dX5_told_60 rfl (lv_at hl 0 rfl) ?_
    refine lv_iload_n hx hb dX5_told_61 rfl (lv_at hl 1 rfl) ?_
    refine lv_iconst (v := 0) hx hb dX5_told_62 (by decide) ?_
    obtain ⟨v2, hv2, hf⟩ := ob hf
    refine cSi (W.runV (As := [.int a0, .int 0]) (rest := []) ⟨hx, hb, hml, hown, hts⟩ (m_X5_own l D cI cJ cO hm mh mo my mp M mc mhol mof mdy mpd a0 0 v2 hv2) (cwV 2 hts gX5_told_X5_own rfl rfl rfl (by decide +kernel) ⟨(Nat.le_of_ble_eq_true rfl), (Nat.le_of_ble_eq_true rfl)⟩) ⟨pw_blind, va_recv hK hP (ci := 4) (q0 := 0) rfl rfl, fun U hU hW => ⟨rfl, pw_at hZ va_S.rf hP hK hU hW (Or.inr rfl) [0, 1, 2, 3, 4] rfl⟩⟩ rfl rfl hl.1 rfl (lv_room (Nat.le_of_ble_eq_true rfl)) dX5_told_63 ⟨(Nat.le_of_ble_eq_true rfl), (Nat.le_of_ble_eq_true rfl)⟩) ?_
    obtain ⟨v3, hv3, hf⟩ := ob hf
    refine cSi (W.runS (As := [.int v2]) (rest := []) ⟨hx, hb, hml, hown, hts⟩ (m_X5_date l D cI cJ cO v2 N v3 hv3) (va_cwS 1 hts gX5_told_X5_date rfl rfl rfl (by decide +kernel) ⟨(Nat.le_of_ble_eq_true rfl), (Nat.le_of_ble_eq_true rfl)⟩) ⟨pw_blind, fun U hU hW => ⟨rfl, pw_at hZ va_S.rf hP hK hU hW (Or.inr rfl) [] rfl⟩⟩ rfl rfl hl.1 rfl (lv_room (Nat.le_of_ble_eq_true rfl)) dX5_told_66 ⟨(Nat.le_of_ble_eq_true rfl), (Nat.le_of_ble_eq_true rfl)⟩) ?_
    exact W.iret hx hb hr (fun t ht _ => ⟨_, rfl, Option.some.inj hf, ht⟩) (fun q hq => absurd hq List.not_mem_nil) dX5_told_69
  have hf := ie hf c1
  by_cases c4 : a1 = 1
  · have hf := it hf c4
    refine lv_tableIn (off := 69) (tgt := 70) hx hb dX5_told_1 (by rw [c4]; decide) (by rw [c4]; decide) (by rw [c4]; rfl) (by decide) ?_
    refine lv_aload_n hx hb dX5_told_70 rfl (lv_at hl 0 rfl) ?_
    refine lv_iload_n hx hb dX5_told_71 rfl (lv_at hl 1 rfl) ?_
    refine lv_iconst (v := 1) hx hb dX5_told_72 (by decide) ?_
    obtain ⟨v5, hv5, hf⟩ := ob hf
    refine cSi (W.runV (As := [.int a0, .int 1]) (rest := []) ⟨hx, hb, hml, hown, hts⟩ (m_X5_own l D cI cJ cO hm mh mo my mp M mc mhol mof mdy mpd a0 1 v5 hv5) (cwV 2 hts gX5_told_X5_own rfl rfl rfl (by decide +kernel) ⟨(Nat.le_of_ble_eq_true rfl), (Nat.le_of_ble_eq_true rfl)⟩) ⟨pw_blind, va_recv hK hP (ci := 4) (q0 := 0) rfl rfl, fun U hU hW => ⟨rfl, pw_at hZ va_S.rf hP hK hU hW (Or.inr rfl) [0, 1, 2, 3, 4] rfl⟩⟩ rfl rfl hl.1 rfl (lv_room (Nat.le_of_ble_eq_true rfl)) dX5_told_73 ⟨(Nat.le_of_ble_eq_true rfl), (Nat.le_of_ble_eq_true rfl)⟩) ?_
    obtain ⟨v6, hv6, hf⟩ := ob hf
    refine cSi (W.runS (As := [.int v5]) (rest := []) ⟨hx, hb, hml, hown, hts⟩ (m_X5_date l D cI cJ cO v5 N v6 hv6) (va_cwS 1 hts gX5_told_X5_date rfl rfl rfl (by decide +kernel) ⟨(Nat.le_of_ble_eq_true rfl), (Nat.le_of_ble_eq_true rfl)⟩) ⟨pw_blind, fun U hU hW => ⟨rfl, pw_at hZ va_S.rf hP hK hU hW (Or.inr rfl) [] rfl⟩⟩ rfl rfl hl.1 rfl (lv_room (Nat.le_of_ble_eq_true rfl)) dX5_told_76 ⟨(Nat.le_of_ble_eq_true rfl), (Nat.le_of_ble_eq_true rfl)⟩) ?_
    exact W.iret hx hb hr (fun t ht _ => ⟨_, rfl, Option.some.inj hf, ht⟩) (fun q hq => absurd hq List.not_mem_nil) dX5_told_79
  have hf := ie hf c4
  by_cases c7 : a1 = 2
  · have hf := it hf c7
    refine lv_tableIn (off := 133) (tgt := 134) hx hb dX5_told_1 (by rw [c7]; decide) (by rw [c7]; decide) (by rw [c7]; rfl) (by decide) ?_
    refine lv_aload_n hx hb dX5_told_134 rfl (lv_at hl 0 rfl) ?_
    refine lv_iload_n hx hb dX5_told_135 rfl (lv_at hl 1 rfl) ?_
    refine lv_iload_n hx hb dX5_told_136 rfl (lv_at hl 2 rfl) ?_
    obtain ⟨v8, hv8, hf⟩ := ob hf
    refine cSi (W.runV (As := [.int a0, .int a1]) (rest := []) ⟨hx, hb, hml, hown, hts⟩ (m_X5_own l D cI cJ cO hm mh mo my mp M mc mhol mof mdy mpd a0 a1 v8 hv8) (cwV 2 hts gX5_told_X5_own rfl rfl rfl (by decide +kernel) ⟨(Nat.le_of_ble_eq_true rfl), (Nat.le_of_ble_eq_true rfl)⟩) ⟨pw_blind, va_recv hK hP (ci := 4) (q0 := 0) rfl rfl, fun U hU hW => ⟨rfl, pw_at hZ va_S.rf hP hK hU hW (Or.inr rfl) [0, 1, 2, 3, 4] rfl⟩⟩ rfl rfl hl.1 rfl (lv_room (Nat.le_of_ble_eq_true rfl)) dX5_told_137 ⟨(Nat.le_of_ble_eq_true rfl), (Nat.le_of_ble_eq_true rfl)⟩) ?_
    exact W.iret hx hb hr (fun t ht _ => ⟨_, rfl, Option.some.inj hf, ht⟩) (fun q hq => absurd hq List.not_mem_nil) dX5_told_140
  have hf := ie hf c7
  by_cases c9 : a1 = 3
  · have hf := it hf c9
    refine lv_tableIn (off := 133) (tgt := 134) hx hb dX5_told_1 (by rw [c9]; decide) (by rw [c9]; decide) (by rw [c9]; rfl) (by decide) ?_
    refine lv_aload_n hx hb dX5_told_134 rfl (lv_at hl 0 rfl) ?_
    refine lv_iload_n hx hb dX5_told_135 rfl (lv_at hl 1 rfl) ?_
    refine lv_iload_n hx hb dX5_told_136 rfl (lv_at hl 2 rfl) ?_
    obtain ⟨v10, hv10, hf⟩ := ob hf
    refine cSi (W.runV (As := [.int a0, .int a1]) (rest := []) ⟨hx, hb, hml, hown, hts⟩ (m_X5_own l D cI cJ cO hm mh mo my mp M mc mhol mof mdy mpd a0 a1 v10 hv10) (cwV 2 hts gX5_told_X5_own rfl rfl rfl (by decide +kernel) ⟨(Nat.le_of_ble_eq_true rfl), (Nat.le_of_ble_eq_true rfl)⟩) ⟨pw_blind, va_recv hK hP (ci := 4) (q0 := 0) rfl rfl, fun U hU hW => ⟨rfl, pw_at hZ va_S.rf hP hK hU hW (Or.inr rfl) [0, 1, 2, 3, 4] rfl⟩⟩ rfl rfl hl.1 rfl (lv_room (Nat.le_of_ble_eq_true rfl)) dX5_told_137 ⟨(Nat.le_of_ble_eq_true rfl), (Nat.le_of_ble_eq_true rfl)⟩) ?_
    exact W.iret hx hb hr (fun t ht _ => ⟨_, rfl, Option.some.inj hf, ht⟩) (fun q hq => absurd hq List.not_mem_nil) dX5_told_140
  have hf := ie hf c9
  by_cases c11 : a1 = 4
  · have hf := it hf c11
    refine lv_tableIn (off := 133) (tgt := 134) hx hb dX5_told_1 (by rw [c11]; decide) (by rw [c11]; decide) (by rw [c11]; rfl) (by decide) ?_
    refine lv_aload_n hx hb dX5_told_134 rfl (lv_at hl 0 rfl) ?_
    refine lv_iload_n hx hb dX5_told_135 rfl (lv_at hl 1 rfl) ?_
    refine lv_iload_n hx hb dX5_told_136 rfl (lv_at hl 2 rfl) ?_
    obtain ⟨v12, hv12, hf⟩ := ob hf
    refine cSi (W.runV (As := [.int a0, .int a1]) (rest := []) ⟨hx, hb, hml, hown, hts⟩ (m_X5_own l D cI cJ cO hm mh mo my mp M mc mhol mof mdy mpd a0 a1 v12 hv12) (cwV 2 hts gX5_told_X5_own rfl rfl rfl (by decide +kernel) ⟨(Nat.le_of_ble_eq_true rfl), (Nat.le_of_ble_eq_true rfl)⟩) ⟨pw_blind, va_recv hK hP (ci := 4) (q0 := 0) rfl rfl, fun U hU hW => ⟨rfl, pw_at hZ va_S.rf hP hK hU hW (Or.inr rfl) [0, 1, 2, 3, 4] rfl⟩⟩ rfl rfl hl.1 rfl (lv_room (Nat.le_of_ble_eq_true rfl)) dX5_told_137 ⟨(Nat.le_of_ble_eq_true rfl), (Nat.le_of_ble_eq_true rfl)⟩) ?_
    exact W.iret hx hb hr (fun t ht _ => ⟨_, rfl, Option.some.inj hf, ht⟩) (fun q hq => absurd hq List.not_mem_nil) dX5_told_140
  have hf := ie hf c11
  by_cases c13 : a1 = 5
  · have hf := it hf c13
    refine lv_tableIn (off := 133) (tgt := 134) hx hb dX5_told_1 (by rw [c13]; decide) (by rw [c13]; decide) (by rw [c13]; rfl) (by decide) ?_
    refine lv_aload_n hx hb dX5_told_134 rfl (lv_at hl 0 rfl) ?_
    refine lv_iload_n hx hb dX5_told_135 rfl (lv_at hl 1 rfl) ?_
    refine lv_iload_n hx hb dX5_told_136 rfl (lv_at hl 2 rfl) ?_
    obtain ⟨v14, hv14, hf⟩ := ob hf
    refine cSi (W.runV (As := [.int a0, .int a1]) (rest := []) ⟨hx, hb, hml, hown, hts⟩ (m_X5_own l D cI cJ cO hm mh mo my mp M mc mhol mof mdy mpd a0 a1 v14 hv14) (cwV 2 hts gX5_told_X5_own rfl rfl rfl (by decide +kernel) ⟨(Nat.le_of_ble_eq_true rfl), (Nat.le_of_ble_eq_true rfl)⟩) ⟨pw_blind, va_recv hK hP (ci := 4) (q0 := 0) rfl rfl, fun U hU hW => ⟨rfl, pw_at hZ va_S.rf hP hK hU hW (Or.inr rfl) [0, 1, 2, 3, 4] rfl⟩⟩ rfl rfl hl.1 rfl (lv_room (Nat.le_of_ble_eq_true rfl)) dX5_told_137 ⟨(Nat.le_of_ble_eq_true rfl), (Nat.le_of_ble_eq_true rfl)⟩) ?_
    exact W.iret hx hb hr (fun t ht _ => ⟨_, rfl, Option.some.inj hf, ht⟩) (fun q hq => absurd hq List.not_mem_nil) dX5_told_140
  have hf := ie hf c13
  by_cases c15 : a1 = 6
  · have hf := it hf c15
    refine lv_tableIn (off := 79) (tgt := 80) hx hb dX5_told_1 (by rw [c15]; decide) (by rw [c15]; decide) (by rw [c15]; rfl) (by decide) ?_
    refine lv_bipush (v := 10) hx hb dX5_told_80 (by decide) ?_
    refine lv_aload_n hx hb dX5_told_82 rfl (lv_at hl 0 rfl) ?_
    refine lv_iload_n hx hb dX5_told_83 rfl (lv_at hl 1 rfl) ?_
    refine lv_iconst (v := 5) hx hb dX5_told_84 (by decide) ?_
    obtain ⟨v16, hv16, hf⟩ := ob hf
    refine cSi (W.runV (As := [.int a0, .int 5]) (rest := [.int 10]) ⟨hx, hb, hml, hown, hts⟩ (m_X5_own l D cI cJ cO hm mh mo my mp M mc mhol mof mdy mpd a0 5 v16 hv16) (cwV 2 hts gX5_told_X5_own rfl rfl rfl (by decide +kernel) ⟨(Nat.le_of_ble_eq_true rfl), (Nat.le_of_ble_eq_true rfl)⟩) ⟨pw_blind, va_recv hK hP (ci := 4) (q0 := 0) rfl rfl, fun U hU hW => ⟨rfl, pw_at hZ va_S.rf hP hK hU hW (Or.inr rfl) [0, 1, 2, 3, 4] rfl⟩⟩ rfl rfl hl.1 rfl (lv_room (Nat.le_of_ble_eq_true rfl)) dX5_told_85 ⟨(Nat.le_of_ble_eq_true rfl), (Nat.le_of_ble_eq_true rfl)⟩) ?_
    refine lv_imul hx hb dX5_told_88 ?_
    exact W.iret hx hb hr (fun t ht _ => ⟨_, rfl, Option.some.inj hf, ht⟩) (fun q hq => absurd hq List.not_mem_nil) dX5_told_89
  have hf := ie hf c15
  by_cases c17 : a1 = 7
  · have hf := it hf c17
    refine lv_tableIn (off := 89) (tgt := 90) hx hb dX5_told_1 (by rw [c17]; decide) (by rw [c17]; decide) (by rw [c17]; rfl) (by decide) ?_
    refine lv_aload_n hx hb dX5_told_90 rfl (lv_at hl 0 rfl) ?_
    refine lv_iload_n hx hb dX5_told_91 rfl (lv_at hl 1 rfl) ?_
    refine lv_bipush (v := 6) hx hb dX5_told_92 (by decide) ?_
    obtain ⟨v18, hv18, hf⟩ := ob hf
    refine cSi (W.runV (As := [.int a0, .int 6]) (rest := []) ⟨hx, hb, hml, hown, hts⟩ (m_X5_own l D cI cJ cO hm mh mo my mp M mc mhol mof mdy mpd a0 6 v18 hv18) (cwV 2 hts gX5_told_X5_own rfl rfl rfl (by decide +kernel) ⟨(Nat.le_of_ble_eq_true rfl), (Nat.le_of_ble_eq_true rfl)⟩) ⟨pw_blind, va_recv hK hP (ci := 4) (q0 := 0) rfl rfl, fun U hU hW => ⟨rfl, pw_at hZ va_S.rf hP hK hU hW (Or.inr rfl) [0, 1, 2, 3, 4] rfl⟩⟩ rfl rfl hl.1 rfl (lv_room (Nat.le_of_ble_eq_true rfl)) dX5_told_94 ⟨(Nat.le_of_ble_eq_true rfl), (Nat.le_of_ble_eq_true rfl)⟩) ?_
    exact W.iret hx hb hr (fun t ht _ => ⟨_, rfl, Option.some.inj hf, ht⟩) (fun q hq => absurd hq List.not_mem_nil) dX5_told_97
  have hf := ie hf c17
  by_cases c19 : a1 = 8
  · have hf := it hf c19
    refine lv_tableIn (off := 97) (tgt := 98) hx hb dX5_told_1 (by rw [c19]; decide) (by rw [c19]; decide) (by rw [c19]; rfl) (by decide) ?_
    refine lv_aload_n hx hb dX5_told_98 rfl (lv_at hl 0 rfl) ?_
    refine lv_iload_n hx hb dX5_told_99 rfl (lv_at hl 1 rfl) ?_
    obtain ⟨v20, hv20, hf⟩ := ob hf
    refine cSz (W.runV (As := [.int a0]) (rest := []) ⟨hx, hb, hml, hown, hts⟩ (m_X5_isThere l D cI cJ cO hm mh mo my mp M mc mhol mof mdy mpd a0 v20 hv20) (cwV 1 hts gX5_told_X5_isThere rfl rfl rfl (by decide +kernel) ⟨(Nat.le_of_ble_eq_true rfl), (Nat.le_of_ble_eq_true rfl)⟩) ⟨pw_blind, va_recv hK hP (ci := 4) (q0 := 0) rfl rfl, fun U hU hW => ⟨rfl, pw_at hZ va_S.rf hP hK hU hW (Or.inr rfl) [0, 1, 2, 3, 4] rfl⟩⟩ rfl rfl hl.1 rfl (lv_room (Nat.le_of_ble_eq_true rfl)) dX5_told_100 ⟨(Nat.le_of_ble_eq_true rfl), (Nat.le_of_ble_eq_true rfl)⟩) (fun zv20 => ?_)
    refine lv_if_eq (tgt := 116) hx hb dX5_told_103 (by decide) (fun c21 => ?_) (fun c21 => ?_)
    · have hf := it hf c21
      refine lv_iconst (v := (-1)) hx hb dX5_told_116 (by decide) ?_
      exact W.iret hx hb hr (fun t ht _ => ⟨_, rfl, Option.some.inj hf, ht⟩) (fun q hq => absurd hq List.not_mem_nil) dX5_told_117
    · have hf := ie hf c21
      refine lv_aload_n hx hb dX5_told_106 rfl (lv_at hl 0 rfl) ?_
      refine lv_iload_n hx hb dX5_told_107 rfl (lv_at hl 1 rfl) ?_
      refine lv_bipush (v := 7) hx hb dX5_told_108 (by decide) ?_
      obtain ⟨v22, hv22, hf⟩ := ob hf
      refine cSi (W.runV (As := [.int a0, .int 7]) (rest := []) ⟨hx, hb, hml, hown, hts⟩ (m_X5_own l D cI cJ cO hm mh mo my mp M mc mhol mof mdy mpd a0 7 v22 hv22) (cwV 2 hts gX5_told_X5_own rfl rfl rfl (by decide +kernel) ⟨(Nat.le_of_ble_eq_true rfl), (Nat.le_of_ble_eq_true rfl)⟩) ⟨pw_blind, va_recv hK hP (ci := 4) (q0 := 0) rfl rfl, fun U hU hW => ⟨rfl, pw_at hZ va_S.rf hP hK hU hW (Or.inr rfl) [0, 1, 2, 3, 4] rfl⟩⟩ rfl rfl hl.1 rfl (lv_room (Nat.le_of_ble_eq_true rfl)) dX5_told_110 ⟨(Nat.le_of_ble_eq_true rfl), (Nat.le_of_ble_eq_true rfl)⟩) ?_
      refine lv_goto (tgt := 117) hx hb dX5_told_113 (by decide) ?_
      exact W.iret hx hb hr (fun t ht _ => ⟨_, rfl, Option.some.inj hf, ht⟩) (fun q hq => absurd hq List.not_mem_nil) dX5_told_117
  have hf := ie hf c19
  by_cases c23 : a1 = 9
  · have hf := it hf c23
    refine lv_tableIn (off := 117) (tgt := 118) hx hb dX5_told_1 (by rw [c23]; decide) (by rw [c23]; decide) (by rw [c23]; rfl) (by decide) ?_
    refine lv_aload_n hx hb dX5_told_118 rfl (lv_at hl 0 rfl) ?_
    refine lv_iload_n hx hb dX5_told_119 rfl (lv_at hl 1 rfl) ?_
    refine lv_bipush (v := 8) hx hb dX5_told_120 (by decide) ?_
    obtain ⟨v24, hv24, hf⟩ := ob hf
    refine cSi (W.runV (As := [.int a0, .int 8]) (rest := []) ⟨hx, hb, hml, hown, hts⟩ (m_X5_own l D cI cJ cO hm mh mo my mp M mc mhol mof mdy mpd a0 8 v24 hv24) (cwV 2 hts gX5_told_X5_own rfl rfl rfl (by decide +kernel) ⟨(Nat.le_of_ble_eq_true rfl), (Nat.le_of_ble_eq_true rfl)⟩) ⟨pw_blind, va_recv hK hP (ci := 4) (q0 := 0) rfl rfl, fun U hU hW => ⟨rfl, pw_at hZ va_S.rf hP hK hU hW (Or.inr rfl) [0, 1, 2, 3, 4] rfl⟩⟩ rfl rfl hl.1 rfl (lv_room (Nat.le_of_ble_eq_true rfl)) dX5_told_122 ⟨(Nat.le_of_ble_eq_true rfl), (Nat.le_of_ble_eq_true rfl)⟩) ?_
    exact W.iret hx hb hr (fun t ht _ => ⟨_, rfl, Option.some.inj hf, ht⟩) (fun q hq => absurd hq List.not_mem_nil) dX5_told_125
  have hf := ie hf c23
  by_cases c25 : a1 = 10
  · have hf := it hf c25
    refine lv_tableIn (off := 125) (tgt := 126) hx hb dX5_told_1 (by rw [c25]; decide) (by rw [c25]; decide) (by rw [c25]; rfl) (by decide) ?_
    refine lv_aload_n hx hb dX5_told_126 rfl (lv_at hl 0 rfl) ?_
    refine lv_iload_n hx hb dX5_told_127 rfl (lv_at hl 1 rfl) ?_
    refine lv_bipush (v := 9) hx hb dX5_told_128 (by decide) ?_
    obtain ⟨v26, hv26, hf⟩ := ob hf
    refine cSi (W.runV (As := [.int a0, .int 9]) (rest := []) ⟨hx, hb, hml, hown, hts⟩ (m_X5_own l D cI cJ cO hm mh mo my mp M mc mhol mof mdy mpd a0 9 v26 hv26) (cwV 2 hts gX5_told_X5_own rfl rfl rfl (by decide +kernel) ⟨(Nat.le_of_ble_eq_true rfl), (Nat.le_of_ble_eq_true rfl)⟩) ⟨pw_blind, va_recv hK hP (ci := 4) (q0 := 0) rfl rfl, fun U hU hW => ⟨rfl, pw_at hZ va_S.rf hP hK hU hW (Or.inr rfl) [0, 1, 2, 3, 4] rfl⟩⟩ rfl rfl hl.1 rfl (lv_room (Nat.le_of_ble_eq_true rfl)) dX5_told_130 ⟨(Nat.le_of_ble_eq_true rfl), (Nat.le_of_ble_eq_true rfl)⟩) ?_
    exact W.iret hx hb hr (fun t ht _ => ⟨_, rfl, Option.some.inj hf, ht⟩) (fun q hq => absurd hq List.not_mem_nil) dX5_told_133
  have hf := ie hf c25
  have tc1 : ¬ a1.toInt = 0 := ne_ti c1
  have tc4 : ¬ a1.toInt = 1 := ne_ti c4
  have tc7 : ¬ a1.toInt = 2 := ne_ti c7
  have tc9 : ¬ a1.toInt = 3 := ne_ti c9
  have tc11 : ¬ a1.toInt = 4 := ne_ti c11
  have tc13 : ¬ a1.toInt = 5 := ne_ti c13
  have tc15 : ¬ a1.toInt = 6 := ne_ti c15
  have tc17 : ¬ a1.toInt = 7 := ne_ti c17
  have tc19 : ¬ a1.toInt = 8 := ne_ti c19
  have tc23 : ¬ a1.toInt = 9 := ne_ti c23
  have tc25 : ¬ a1.toInt = 10 := ne_ti c25
  refine lv_tableOut (tgt := 134) hx hb dX5_told_1 (by omega) (by decide) ?_
  refine lv_aload_n hx hb dX5_told_134 rfl (lv_at hl 0 rfl) ?_
  refine lv_iload_n hx hb dX5_told_135 rfl (lv_at hl 1 rfl) ?_
  refine lv_iload_n hx hb dX5_told_136 rfl (lv_at hl 2 rfl) ?_
  obtain ⟨v27, hv27, hf⟩ := ob hf
  refine cSi (W.runV (As := [.int a0, .int a1]) (rest := []) ⟨hx, hb, hml, hown, hts⟩ (m_X5_own l D cI cJ cO hm mh mo my mp M mc mhol mof mdy mpd a0 a1 v27 hv27) (cwV 2 hts gX5_told_X5_own rfl rfl rfl (by decide +kernel) ⟨(Nat.le_of_ble_eq_true rfl), (Nat.le_of_ble_eq_true rfl)⟩) ⟨pw_blind, va_recv hK hP (ci := 4) (q0 := 0) rfl rfl, fun U hU hW => ⟨rfl, pw_at hZ va_S.rf hP hK hU hW (Or.inr rfl) [0, 1, 2, 3, 4] rfl⟩⟩ rfl rfl hl.1 rfl (lv_room (Nat.le_of_ble_eq_true rfl)) dX5_told_137 ⟨(Nat.le_of_ble_eq_true rfl), (Nat.le_of_ble_eq_true rfl)⟩) ?_
  exact W.iret hx hb hr (fun t ht _ => ⟨_, rfl, Option.some.inj hf, ht⟩) (fun q hq => absurd hq List.not_mem_nil) dX5_told_140
set_option maxHeartbeats 4000000 in
set_option maxRecDepth 100000 in
theorem m_X5_thirty (l : Launch) (D : va_G) (cI cJ cO : ClassId) (a0 : Int32) (a1 : Int32) (r : Int32) (hf : f_X5_thirty a0 a1 = some r) : Met l yX5_thirty wsX5_thirty ({ frames := 1, cells := 0, slots := 0, locals := 13 }) (va_Pc [.int a0, .int a1] (pw D (ty3 cI cJ cO) none [])) (QSi r) 0 0 (fun _ => False) := by
  refine Met.ofW (cc := cX5_thirty) (maxL := 4) (ret := (some .int)) (by decide) rfl ?_
  intro p e s m args below meth c s₁ Bd hml hv
  obtain ⟨rfl, hZ, hP, hK⟩ := hv
  have hx := Bd.exec
  have hb := Bd.bytes
  have hr := Bd.returns
  have hts := atoms_spec (ws := wsX5_thirty) Bd.pre
  have hown : s.vm.findClass RX5 = some m.cls := findClass_of_methodNamed Bd.named
  have hlocks := Bd.notSynchronized
  have hl := lv_entry ([.int a0, .int a1]) (n := 4) (Nat.le_of_ble_eq_true rfl)
  rw [lg_entry_eq]
  generalize (lg_sl ([.int a0, .int a1]) ++ List.replicate (4 - (lg_sl ([.int a0, .int a1])).length) Slot.unset).toArray = ls at hl ⊢
  have hl : lv_has ls 4 [(0, .int a0), (1, .int a1)] := hl
  unfold f_X5_thirty at hf
  refine lv_bipush (v := 30) hx hb dX5_thirty_0 (by decide) ?_
  refine lv_iload_n hx hb dX5_thirty_2 rfl (lv_at hl 0 rfl) ?_
  refine lv_bipush (v := 100) hx hb dX5_thirty_3 (by decide) ?_
  refine lv_irem hx hb dX5_thirty_5 (by decide) ?_
  refine va_mmin hx hb (hml.trans hl.1.symm) hown (hts (.methodLink RX5 80 Lib.Math.min.name) (by decide +kernel)) (hts (.static Lib.Math.min.name) (by decide +kernel)) (hts (.initialized "java/lang/Math") (by decide +kernel)) (hts (.code Lib.Math.min.name Lib.Math.min.code 2 (some .int)) (by decide +kernel)) (Nat.le_of_ble_eq_true rfl) (Nat.le_of_ble_eq_true rfl) (Nat.le_of_ble_eq_true rfl) (Nat.le_of_ble_eq_true rfl) dX5_thirty_6 ?_
  refine lv_topi (fun x1 ex1 => ?_)
  have hf := bd_s hf ex1
  refine lv_istore_n (lv' := [(2, .int x1), (0, .int a0), (1, .int a1)]) hx hb dX5_thirty_9 rfl hl (by decide) rfl (fun ls hl => ?_)
  refine lv_iload_n hx hb dX5_thirty_10 rfl (lv_at hl 2 rfl) ?_
  refine lv_bipush (v := 100) hx hb dX5_thirty_11 (by decide) ?_
  refine lv_irem hx hb dX5_thirty_13 (by decide) ?_
  refine lv_bipush (v := 31) hx hb dX5_thirty_14 (by decide) ?_
  obtain ⟨K2, hK2, hf⟩ := jn_s hf
  have JK2 : ∀ (x3 : Int32) (ls : Array Slot), lv_has ls 4 [(0, .int a0), (1, .int a1), (2, .int x1)] → K2 x3 = some r → W p l e (headSpec wsX5_thirty ({ frames := 1, cells := 0, slots := 0, locals := 13 })).room s m ([.int a0, .int a1] : List Value).toArray below meth c s.heap [] 0 0 (MQ below (QSi r) ([.int a0, .int a1] : List Value).toArray s 0 0 (fun _ => False)) (F0 m 34 ls [.int x3]) := by
    intro x3 ls hl hf
    rw [hK2] at hf
    refine lv_istore_n (lv' := [(3, .int x3), (0, .int a0), (1, .int a1), (2, .int x1)]) hx hb dX5_thirty_34 rfl hl (by decide) rfl (fun ls hl => ?_)
    refine lv_sipush (v := 360) hx hb dX5_thirty_35 (by decide) ?_
    refine lv_iload_n hx hb dX5_thirty_38 rfl (lv_at hl 2 rfl) ?_
    refine lv_sipush (v := 10000) hx hb dX5_thirty_39 (by decide) ?_
    refine lv_idiv hx hb dX5_thirty_42 (by decide) ?_
    refine lv_iload_n hx hb dX5_thirty_43 rfl (lv_at hl 1 rfl) ?_
    refine lv_sipush (v := 10000) hx hb dX5_thirty_44 (by decide) ?_
    refine lv_idiv hx hb dX5_thirty_47 (by decide) ?_
    refine lv_isub hx hb dX5_thirty_48 ?_
    refine lv_imul hx hb dX5_thirty_49 ?_
    refine lv_bipush (v := 30) hx hb dX5_thirty_50 (by decide) ?_
    refine lv_iload_n hx hb dX5_thirty_52 rfl (lv_at hl 2 rfl) ?_
    refine lv_bipush (v := 100) hx hb dX5_thirty_53 (by decide) ?_
    refine lv_idiv hx hb dX5_thirty_55 (by decide) ?_
    refine lv_bipush (v := 100) hx hb dX5_thirty_56 (by decide) ?_
    refine lv_irem hx hb dX5_thirty_58 (by decide) ?_
    refine lv_iload_n hx hb dX5_thirty_59 rfl (lv_at hl 1 rfl) ?_
    refine lv_bipush (v := 100) hx hb dX5_thirty_60 (by decide) ?_
    refine lv_idiv hx hb dX5_thirty_62 (by decide) ?_
    refine lv_bipush (v := 100) hx hb dX5_thirty_63 (by decide) ?_
    refine lv_irem hx hb dX5_thirty_65 (by decide) ?_
    refine lv_isub hx hb dX5_thirty_66 ?_
    refine lv_imul hx hb dX5_thirty_67 ?_
    refine lv_iadd hx hb dX5_thirty_68 ?_
    refine lv_iload_n hx hb dX5_thirty_69 rfl (lv_at hl 0 rfl) ?_
    refine lv_iadd hx hb dX5_thirty_70 ?_
    refine lv_iload_n hx hb dX5_thirty_71 rfl (lv_at hl 3 rfl) ?_
    refine lv_isub hx hb dX5_thirty_72 ?_
    exact W.iret hx hb hr (fun t ht _ => ⟨_, rfl, Option.some.inj hf, ht⟩) (fun q hq => absurd hq List.not_mem_nil) dX5_thirty_73
  obtain ⟨K4, hK4, hf⟩ := jn_s hf
  have JK4 : ∀  (ls : Array Slot), lv_has ls 4 [(0, .int a0), (1, .int a1), (2, .int x1)] → K4 () = some r → W p l e (headSpec wsX5_thirty ({ frames := 1, cells := 0, slots := 0, locals := 13 })).room s m ([.int a0, .int a1] : List Value).toArray below meth c s.heap [] 0 0 (MQ below (QSi r) ([.int a0, .int a1] : List Value).toArray s 0 0 (fun _ => False)) (F0 m 30 ls []) := by
    intro  ls hl hf
    rw [hK4] at hf
    refine lv_iload_n hx hb dX5_thirty_30 rfl (lv_at hl 1 rfl) ?_
    refine lv_bipush (v := 100) hx hb dX5_thirty_31 (by decide) ?_
    refine lv_irem hx hb dX5_thirty_33 (by decide) ?_
    exact JK2 (a1 - a1 / 100 * 100) ls (lv_sub hl [0, 1, 2] rfl) hf
  refine lv_icmp_ne (tgt := 30) hx hb dX5_thirty_16 (by decide) (fun c5 => ?_) (fun c5 => ?_)
  · have hf := ie hf c5
    exact JK4  ls (lv_sub hl [1, 2, 0] rfl) hf
  · have hf := it hf c5
    refine lv_iload_n hx hb dX5_thirty_19 rfl (lv_at hl 0 rfl) ?_
    refine lv_bipush (v := 30) hx hb dX5_thirty_20 (by decide) ?_
    refine lv_icmp_ne (tgt := 30) hx hb dX5_thirty_22 (by decide) (fun c6 => ?_) (fun c6 => ?_)
    · have hf := ie hf c6
      exact JK4  ls (lv_sub hl [1, 2, 0] rfl) hf
    · have hf := it hf c6
      refine lv_bipush (v := 30) hx hb dX5_thirty_25 (by decide) ?_
      refine lv_goto (tgt := 34) hx hb dX5_thirty_27 (by decide) ?_
      exact JK2 30 ls (lv_sub hl [1, 2, 0] rfl) hf
set_option maxHeartbeats 4000000 in
set_option maxRecDepth 100000 in
theorem m_X5_interest (l : Launch) (D : va_G) (cI cJ cO : ClassId) (hm : Nat) (mh : Nat) (mo : Nat) (my : Nat) (mp : Nat) (M : Nat → Int32) (mc : Int64) (mhol : Nat → Int32) (mof : Nat → Int32) (mdy : Nat → Int32) (mpd : Nat → Int64) (a0 : Int32) (a1 : Int32) (a2 : Int32) (a3 : Int32) (a4 : Int32) (N : Nat) (r : Int32) (hf : f_X5_interest N mof mdy a0 a1 a2 a3 a4 = some r) : Met l yX5_interest wsX5_interest ({ frames := 2, cells := 0, slots := 0, locals := 44 }) (va_Pc [.ref hm, .int a0, .int a1, .int a2, .int a3, .int a4] (pw D (ty3 cI cJ cO) none [eM hm mh mo my mp M mc, eH cI mh mhol, eO cI mo mof, eY cI my mdy, eP cJ mp mpd])) (QSi r) 0 0 (fun _ => False) := by
  refine Met.ofW (cc := cX5_interest) (maxL := 8) (ret := (some .int)) (by decide) rfl ?_
  intro p e s m args below meth c s₁ Bd hml hv
  obtain ⟨rfl, hZ, hP, hK⟩ := hv
  have hx := Bd.exec
  have hb := Bd.bytes
  have hr := Bd.returns
  have hts := atoms_spec (ws := wsX5_interest) Bd.pre
  have hown : s.vm.findClass RX5 = some m.cls := findClass_of_methodNamed Bd.named
  have hlocks := Bd.notSynchronized
  have hl := lv_entry ([.ref hm, .int a0, .int a1, .int a2, .int a3, .int a4]) (n := 8) (Nat.le_of_ble_eq_true rfl)
  rw [lg_entry_eq]
  generalize (lg_sl ([.ref hm, .int a0, .int a1, .int a2, .int a3, .int a4]) ++ List.replicate (8 - (lg_sl ([.ref hm, .int a0, .int a1, .int a2, .int a3, .int a4])).length) Slot.unset).toArray = ls at hl ⊢
  have hl : lv_has ls 8 [(0, .ref hm), (1, .int a0), (2, .int a1), (3, .int a2), (4, .int a3), (5, .int a4)] := hl
  unfold f_X5_interest at hf
  refine lv_iload_n hx hb dX5_interest_0 rfl (lv_at hl 2 rfl) ?_
  refine lv_i2l hx hb dX5_interest_1 rfl ?_
  refine lv_aload_n hx hb dX5_interest_2 rfl (lv_at hl 0 rfl) ?_
  refine lv_iload_n hx hb dX5_interest_3 rfl (lv_at hl 1 rfl) ?_
  refine lv_iconst (v := 2) hx hb dX5_interest_4 (by decide) ?_
  obtain ⟨v1, hv1, hf⟩ := ob hf
  refine cSi (W.runV (As := [.int a0, .int 2]) (rest := [.long a1.toInt64]) ⟨hx, hb, hml, hown, hts⟩ (m_X5_own l D cI cJ cO hm mh mo my mp M mc mhol mof mdy mpd a0 2 v1 hv1) (cwV 2 hts gX5_interest_X5_own rfl rfl rfl (by decide +kernel) ⟨(Nat.le_of_ble_eq_true rfl), (Nat.le_of_ble_eq_true rfl)⟩) ⟨pw_blind, va_recv hK hP (ci := 4) (q0 := 0) rfl rfl, fun U hU hW => ⟨rfl, pw_at hZ va_S.rf hP hK hU hW (Or.inr rfl) [0, 1, 2, 3, 4] rfl⟩⟩ rfl rfl hl.1 rfl (lv_room (Nat.le_of_ble_eq_true rfl)) dX5_interest_5 ⟨(Nat.le_of_ble_eq_true rfl), (Nat.le_of_ble_eq_true rfl)⟩) ?_
  refine lv_i2l hx hb dX5_interest_8 rfl ?_
  refine lv_lmul hx hb dX5_interest_9 ?_
  refine lv_topl (fun x2 ex2 => ?_)
  have hf := bd_s hf ex2
  refine lv_lstore (lv' := [(6, .long x2), (0, .ref hm), (1, .int a0), (2, .int a1), (3, .int a2), (4, .int a3), (5, .int a4)]) hx hb dX5_interest_10 hl (by decide) rfl (fun ls hl => ?_)
  refine lv_aload_n hx hb dX5_interest_12 rfl (lv_at hl 1 rfl) ?_
  refine lv_iload_n hx hb dX5_interest_13 rfl (lv_at hl 2 rfl) ?_
  refine lv_iconst (v := 4) hx hb dX5_interest_14 (by decide) ?_
  obtain ⟨v3, hv3, hf⟩ := ob hf
  refine cSi (W.runV (As := [.int a0, .int 4]) (rest := []) ⟨hx, hb, hml, hown, hts⟩ (m_X5_own l D cI cJ cO hm mh mo my mp M mc mhol mof mdy mpd a0 4 v3 hv3) (cwV 2 hts gX5_interest_X5_own rfl rfl rfl (by decide +kernel) ⟨(Nat.le_of_ble_eq_true rfl), (Nat.le_of_ble_eq_true rfl)⟩) ⟨pw_blind, va_recv hK hP (ci := 4) (q0 := 0) rfl rfl, fun U hU hW => ⟨rfl, pw_at hZ va_S.rf hP hK hU hW (Or.inr rfl) [0, 1, 2, 3, 4] rfl⟩⟩ rfl rfl hl.1 rfl (lv_room (Nat.le_of_ble_eq_true rfl)) dX5_interest_15 ⟨(Nat.le_of_ble_eq_true rfl), (Nat.le_of_ble_eq_true rfl)⟩) ?_
  by_cases c4 : v3 = 0
  · have hf := it hf c4
    refine lv_tableIn (off := 26) (tgt := 44) hx hb dX5_interest_18 (by rw [c4]; decide) (by rw [c4]; decide) (by rw [c4]; rfl) (by decide) ?_
    refine lv_lload hx hb dX5_interest_44 (lv_at hl 0 rfl) ?_
    refine lv_iload_n hx hb dX5_interest_46 rfl (lv_at hl 4 rfl) ?_
    obtain ⟨v5, hv5, hf⟩ := ob hf
    refine cSi (W.runS (As := [.int a2]) (rest := [.long x2]) ⟨hx, hb, hml, hown, hts⟩ (m_X5_date l D cI cJ cO a2 N v5 hv5) (va_cwS 1 hts gX5_interest_X5_date rfl rfl rfl (by decide +kernel) ⟨(Nat.le_of_ble_eq_true rfl), (Nat.le_of_ble_eq_true rfl)⟩) ⟨pw_blind, fun U hU hW => ⟨rfl, pw_at hZ va_S.rf hP hK hU hW (Or.inr rfl) [] rfl⟩⟩ rfl rfl hl.1 rfl (lv_room (Nat.le_of_ble_eq_true rfl)) dX5_interest_47 ⟨(Nat.le_of_ble_eq_true rfl), (Nat.le_of_ble_eq_true rfl)⟩) ?_
    refine lv_iload hx hb dX5_interest_50 (lv_at hl 5 rfl) ?_
    obtain ⟨v6, hv6, hf⟩ := ob hf
    refine cSi (W.runS (As := [.int a3]) (rest := [.int v5, .long x2]) ⟨hx, hb, hml, hown, hts⟩ (m_X5_date l D cI cJ cO a3 N v6 hv6) (va_cwS 1 hts gX5_interest_X5_date rfl rfl rfl (by decide +kernel) ⟨(Nat.le_of_ble_eq_true rfl), (Nat.le_of_ble_eq_true rfl)⟩) ⟨pw_blind, fun U hU hW => ⟨rfl, pw_at hZ va_S.rf hP hK hU hW (Or.inr rfl) [] rfl⟩⟩ rfl rfl hl.1 rfl (lv_room (Nat.le_of_ble_eq_true rfl)) dX5_interest_52 ⟨(Nat.le_of_ble_eq_true rfl), (Nat.le_of_ble_eq_true rfl)⟩) ?_
    obtain ⟨v7, hv7, hf⟩ := ob hf
    refine cSi (W.runS (As := [.int v5, .int v6]) (rest := [.long x2]) ⟨hx, hb, hml, hown, hts⟩ (m_X5_thirty l D cI cJ cO v5 v6 v7 hv7) (va_cwS 2 hts gX5_interest_X5_thirty rfl rfl rfl (by decide +kernel) ⟨(Nat.le_of_ble_eq_true rfl), (Nat.le_of_ble_eq_true rfl)⟩) ⟨pw_blind, fun U hU hW => ⟨rfl, pw_at hZ va_S.rf hP hK hU hW (Or.inr rfl) [] rfl⟩⟩ rfl rfl hl.1 rfl (lv_room (Nat.le_of_ble_eq_true rfl)) dX5_interest_55 ⟨(Nat.le_of_ble_eq_true rfl), (Nat.le_of_ble_eq_true rfl)⟩) ?_
    refine lv_i2l hx hb dX5_interest_58 rfl ?_
    refine lv_lmul hx hb dX5_interest_59 ?_
    refine lv_ldc2 hx hb hown (hts (.constantLong RX5 128 (3600000)) (by decide +kernel)) dX5_interest_60 ?_
    refine lv_ldiv hx hb dX5_interest_63 (by decide) ?_
    refine lv_l2i hx hb dX5_interest_64 rfl ?_
    exact W.iret hx hb hr (fun t ht _ => ⟨_, rfl, Option.some.inj hf, ht⟩) (fun q hq => absurd hq List.not_mem_nil) dX5_interest_65
  have hf := ie hf c4
  by_cases c8 : v3 = 1
  · have hf := it hf c8
    refine lv_tableIn (off := 48) (tgt := 66) hx hb dX5_interest_18 (by rw [c8]; decide) (by rw [c8]; decide) (by rw [c8]; rfl) (by decide) ?_
    refine lv_lload hx hb dX5_interest_66 (lv_at hl 0 rfl) ?_
    refine lv_iload hx hb dX5_interest_68 (lv_at hl 5 rfl) ?_
    refine lv_iload_n hx hb dX5_interest_70 rfl (lv_at hl 4 rfl) ?_
    refine lv_isub hx hb dX5_interest_71 ?_
    refine lv_i2l hx hb dX5_interest_72 rfl ?_
    refine lv_lmul hx hb dX5_interest_73 ?_
    refine lv_ldc2 hx hb hown (hts (.constantLong RX5 128 (3600000)) (by decide +kernel)) dX5_interest_74 ?_
    refine lv_ldiv hx hb dX5_interest_77 (by decide) ?_
    refine lv_l2i hx hb dX5_interest_78 rfl ?_
    exact W.iret hx hb hr (fun t ht _ => ⟨_, rfl, Option.some.inj hf, ht⟩) (fun q hq => absurd hq List.not_mem_nil) dX5_interest_79
  have hf := ie hf c8
  by_cases c9 : v3 = 2
  · have hf := it hf c9
    refine lv_tableIn (off := 62) (tgt := 80) hx hb dX5_interest_18 (by rw [c9]; decide) (by rw [c9]; decide) (by rw [c9]; rfl) (by decide) ?_
    refine lv_lload hx hb dX5_interest_80 (lv_at hl 0 rfl) ?_
    refine lv_iload hx hb dX5_interest_82 (lv_at hl 5 rfl) ?_
    refine lv_iload_n hx hb dX5_interest_84 rfl (lv_at hl 4 rfl) ?_
    refine lv_isub hx hb dX5_interest_85 ?_
    refine lv_i2l hx hb dX5_interest_86 rfl ?_
    refine lv_lmul hx hb dX5_interest_87 ?_
    refine lv_ldc2 hx hb hown (hts (.constantLong RX5 130 (3650000)) (by decide +kernel)) dX5_interest_88 ?_
    refine lv_ldiv hx hb dX5_interest_91 (by decide) ?_
    refine lv_l2i hx hb dX5_interest_92 rfl ?_
    exact W.iret hx hb hr (fun t ht _ => ⟨_, rfl, Option.some.inj hf, ht⟩) (fun q hq => absurd hq List.not_mem_nil) dX5_interest_93
  have hf := ie hf c9
  have tc4 : ¬ v3.toInt = 0 := ne_ti c4
  have tc8 : ¬ v3.toInt = 1 := ne_ti c8
  have tc9 : ¬ v3.toInt = 2 := ne_ti c9
  refine lv_tableOut (tgt := 94) hx hb dX5_interest_18 (by omega) (by decide) ?_
  refine lv_lload hx hb dX5_interest_94 (lv_at hl 0 rfl) ?_
  refine lv_iload hx hb dX5_interest_96 (lv_at hl 5 rfl) ?_
  refine lv_iload_n hx hb dX5_interest_98 rfl (lv_at hl 4 rfl) ?_
  refine lv_isub hx hb dX5_interest_99 ?_
  refine lv_i2l hx hb dX5_interest_100 rfl ?_
  refine lv_lmul hx hb dX5_interest_101 ?_
  refine lv_aload_n hx hb dX5_interest_102 rfl (lv_at hl 1 rfl) ?_
  refine lv_iload_n hx hb dX5_interest_103 rfl (lv_at hl 2 rfl) ?_
  refine lv_iconst (v := 3) hx hb dX5_interest_104 (by decide) ?_
  obtain ⟨v10, hv10, hf⟩ := ob hf
  refine cSi (W.runV (As := [.int a0, .int 3]) (rest := [.long (x2 * ((a3 - a2).toInt64))]) ⟨hx, hb, hml, hown, hts⟩ (m_X5_own l D cI cJ cO hm mh mo my mp M mc mhol mof mdy mpd a0 3 v10 hv10) (cwV 2 hts gX5_interest_X5_own rfl rfl rfl (by decide +kernel) ⟨(Nat.le_of_ble_eq_true rfl), (Nat.le_of_ble_eq_true rfl)⟩) ⟨pw_blind, va_recv hK hP (ci := 4) (q0 := 0) rfl rfl, fun U hU hW => ⟨rfl, pw_at hZ va_S.rf hP hK hU hW (Or.inr rfl) [0, 1, 2, 3, 4] rfl⟩⟩ rfl rfl hl.1 rfl (lv_room (Nat.le_of_ble_eq_true rfl)) dX5_interest_105 ⟨(Nat.le_of_ble_eq_true rfl), (Nat.le_of_ble_eq_true rfl)⟩) ?_
  refine lv_i2l hx hb dX5_interest_108 rfl ?_
  refine lv_aload_n hx hb dX5_interest_109 rfl (lv_at hl 1 rfl) ?_
  refine lv_iload_n hx hb dX5_interest_110 rfl (lv_at hl 2 rfl) ?_
  refine lv_iload hx hb dX5_interest_111 (lv_at hl 6 rfl) ?_
  obtain ⟨v11, hv11, hf⟩ := ob hf
  refine cSi (W.runV (As := [.int a0, .int a4]) (rest := [.long v10.toInt64, .long (x2 * ((a3 - a2).toInt64))]) ⟨hx, hb, hml, hown, hts⟩ (m_X5_couponDay l D cI cJ cO hm mh mo my mp M mc mhol mof mdy mpd a0 a4 v11 hv11) (cwV 2 hts gX5_interest_X5_couponDay rfl rfl rfl (by decide +kernel) ⟨(Nat.le_of_ble_eq_true rfl), (Nat.le_of_ble_eq_true rfl)⟩) ⟨pw_blind, va_recv hK hP (ci := 4) (q0 := 0) rfl rfl, fun U hU hW => ⟨rfl, pw_at hZ va_S.rf hP hK hU hW (Or.inr rfl) [0, 1, 2, 3, 4] rfl⟩⟩ rfl rfl hl.1 rfl (lv_room (Nat.le_of_ble_eq_true rfl)) dX5_interest_113 ⟨(Nat.le_of_ble_eq_true rfl), (Nat.le_of_ble_eq_true rfl)⟩) ?_
  refine lv_aload_n hx hb dX5_interest_116 rfl (lv_at hl 1 rfl) ?_
  refine lv_iload_n hx hb dX5_interest_117 rfl (lv_at hl 2 rfl) ?_
  refine lv_iload hx hb dX5_interest_118 (lv_at hl 6 rfl) ?_
  refine lv_iconst (v := 1) hx hb dX5_interest_120 (by decide) ?_
  refine lv_isub hx hb dX5_interest_121 ?_
  obtain ⟨v12, hv12, hf⟩ := ob hf
  refine cSi (W.runV (As := [.int a0, .int (a4 - 1)]) (rest := [.int v11, .long v10.toInt64, .long (x2 * ((a3 - a2).toInt64))]) ⟨hx, hb, hml, hown, hts⟩ (m_X5_couponDay l D cI cJ cO hm mh mo my mp M mc mhol mof mdy mpd a0 (a4 - 1) v12 hv12) (cwV 2 hts gX5_interest_X5_couponDay rfl rfl rfl (by decide +kernel) ⟨(Nat.le_of_ble_eq_true rfl), (Nat.le_of_ble_eq_true rfl)⟩) ⟨pw_blind, va_recv hK hP (ci := 4) (q0 := 0) rfl rfl, fun U hU hW => ⟨rfl, pw_at hZ va_S.rf hP hK hU hW (Or.inr rfl) [0, 1, 2, 3, 4] rfl⟩⟩ rfl rfl hl.1 rfl (lv_room (Nat.le_of_ble_eq_true rfl)) dX5_interest_122 ⟨(Nat.le_of_ble_eq_true rfl), (Nat.le_of_ble_eq_true rfl)⟩) ?_
  refine lv_isub hx hb dX5_interest_125 ?_
  refine lv_i2l hx hb dX5_interest_126 rfl ?_
  refine lv_lmul hx hb dX5_interest_127 ?_
  refine lv_ldc2 hx hb hown (hts (.constantLong RX5 132 (10000)) (by decide +kernel)) dX5_interest_128 ?_
  refine lv_lmul hx hb dX5_interest_131 ?_
  refine lv_topl (fun x13 ex13 => ?_)
  have hf := bd_s hf ex13
  obtain ⟨c14, hf⟩ := gd_s hf
  refine lv_ldiv hx hb dX5_interest_132 c14 ?_
  refine lv_l2i hx hb dX5_interest_133 rfl ?_
  exact W.iret hx hb hr (fun t ht _ => ⟨_, rfl, Option.some.inj hf, ht⟩) (fun q hq => absurd hq List.not_mem_nil) dX5_interest_134
set_option maxHeartbeats 4000000 in
set_option maxRecDepth 100000 in
theorem m_X5_beginning (l : Launch) (D : va_G) (cI cJ cO : ClassId) (hm : Nat) (mh : Nat) (mo : Nat) (my : Nat) (mp : Nat) (M : Nat → Int32) (mc : Int64) (mhol : Nat → Int32) (mof : Nat → Int32) (mdy : Nat → Int32) (mpd : Nat → Int64) (a0 : Int32) (a1 : Int32) (r : Int32) (hf : f_X5_beginning mof mdy a0 a1 = some r) : Met l yX5_beginning wsX5_beginning ({ frames := 1, cells := 0, slots := 0, locals := 22 }) (va_Pc [.ref hm, .int a0, .int a1] (pw D (ty3 cI cJ cO) none [eM hm mh mo my mp M mc, eH cI mh mhol, eO cI mo mof, eY cI my mdy, eP cJ mp mpd])) (QSi r) 0 0 (fun _ => False) := by
  refine Met.ofW (cc := cX5_beginning) (maxL := 3) (ret := (some .int)) (by decide) rfl ?_
  intro p e s m args below meth c s₁ Bd hml hv
  obtain ⟨rfl, hZ, hP, hK⟩ := hv
  have hx := Bd.exec
  have hb := Bd.bytes
  have hr := Bd.returns
  have hts := atoms_spec (ws := wsX5_beginning) Bd.pre
  have hown : s.vm.findClass RX5 = some m.cls := findClass_of_methodNamed Bd.named
  have hlocks := Bd.notSynchronized
  have hl := lv_entry ([.ref hm, .int a0, .int a1]) (n := 3) (Nat.le_of_ble_eq_true rfl)
  rw [lg_entry_eq]
  generalize (lg_sl ([.ref hm, .int a0, .int a1]) ++ List.replicate (3 - (lg_sl ([.ref hm, .int a0, .int a1])).length) Slot.unset).toArray = ls at hl ⊢
  have hl : lv_has ls 3 [(0, .ref hm), (1, .int a0), (2, .int a1)] := hl
  unfold f_X5_beginning at hf
  refine lv_iload_n hx hb dX5_beginning_0 rfl (lv_at hl 2 rfl) ?_
  refine lv_if_ne (tgt := 22) hx hb dX5_beginning_1 (by decide) (fun c1 => ?_) (fun c1 => ?_)
  · have hf := ie hf c1
    refine lv_aload_n hx hb dX5_beginning_22 rfl (lv_at hl 0 rfl) ?_
    refine lv_iload_n hx hb dX5_beginning_23 rfl (lv_at hl 1 rfl) ?_
    refine lv_iload_n hx hb dX5_beginning_24 rfl (lv_at hl 2 rfl) ?_
    refine lv_iconst (v := 1) hx hb dX5_beginning_25 (by decide) ?_
    refine lv_isub hx hb dX5_beginning_26 ?_
    obtain ⟨v2, hv2, hf⟩ := ob hf
    refine cSi (W.runV (As := [.int a0, .int (a1 - 1)]) (rest := []) ⟨hx, hb, hml, hown, hts⟩ (m_X5_couponDay l D cI cJ cO hm mh mo my mp M mc mhol mof mdy mpd a0 (a1 - 1) v2 hv2) (cwV 2 hts gX5_beginning_X5_couponDay rfl rfl rfl (by decide +kernel) ⟨(Nat.le_of_ble_eq_true rfl), (Nat.le_of_ble_eq_true rfl)⟩) ⟨pw_blind, va_recv hK hP (ci := 4) (q0 := 0) rfl rfl, fun U hU hW => ⟨rfl, pw_at hZ va_S.rf hP hK hU hW (Or.inr rfl) [0, 1, 2, 3, 4] rfl⟩⟩ rfl rfl hl.1 rfl (lv_room (Nat.le_of_ble_eq_true rfl)) dX5_beginning_27 ⟨(Nat.le_of_ble_eq_true rfl), (Nat.le_of_ble_eq_true rfl)⟩) ?_
    exact W.iret hx hb hr (fun t ht _ => ⟨_, rfl, Option.some.inj hf, ht⟩) (fun q hq => absurd hq List.not_mem_nil) dX5_beginning_30
  · have hf := it hf c1
    refine lv_aload_n hx hb dX5_beginning_4 rfl (lv_at hl 0 rfl) ?_
    refine lv_iload_n hx hb dX5_beginning_5 rfl (lv_at hl 1 rfl) ?_
    refine lv_iconst (v := 0) hx hb dX5_beginning_6 (by decide) ?_
    obtain ⟨v3, hv3, hf⟩ := ob hf
    refine cSi (W.runV (As := [.int a0, .int 0]) (rest := []) ⟨hx, hb, hml, hown, hts⟩ (m_X5_own l D cI cJ cO hm mh mo my mp M mc mhol mof mdy mpd a0 0 v3 hv3) (cwV 2 hts gX5_beginning_X5_own rfl rfl rfl (by decide +kernel) ⟨(Nat.le_of_ble_eq_true rfl), (Nat.le_of_ble_eq_true rfl)⟩) ⟨pw_blind, va_recv hK hP (ci := 4) (q0 := 0) rfl rfl, fun U hU hW => ⟨rfl, pw_at hZ va_S.rf hP hK hU hW (Or.inr rfl) [0, 1, 2, 3, 4] rfl⟩⟩ rfl rfl hl.1 rfl (lv_room (Nat.le_of_ble_eq_true rfl)) dX5_beginning_7 ⟨(Nat.le_of_ble_eq_true rfl), (Nat.le_of_ble_eq_true rfl)⟩) ?_
    refine lv_aload_n hx hb dX5_beginning_10 rfl (lv_at hl 0 rfl) ?_
    refine lv_iload_n hx hb dX5_beginning_11 rfl (lv_at hl 1 rfl) ?_
    refine lv_iconst (v := (-1)) hx hb dX5_beginning_12 (by decide) ?_
    obtain ⟨v4, hv4, hf⟩ := ob hf
    refine cSi (W.runV (As := [.int a0, .int (-1)]) (rest := [.int v3]) ⟨hx, hb, hml, hown, hts⟩ (m_X5_couponDay l D cI cJ cO hm mh mo my mp M mc mhol mof mdy mpd a0 (-1) v4 hv4) (cwV 2 hts gX5_beginning_X5_couponDay rfl rfl rfl (by decide +kernel) ⟨(Nat.le_of_ble_eq_true rfl), (Nat.le_of_ble_eq_true rfl)⟩) ⟨pw_blind, va_recv hK hP (ci := 4) (q0 := 0) rfl rfl, fun U hU hW => ⟨rfl, pw_at hZ va_S.rf hP hK hU hW (Or.inr rfl) [0, 1, 2, 3, 4] rfl⟩⟩ rfl rfl hl.1 rfl (lv_room (Nat.le_of_ble_eq_true rfl)) dX5_beginning_13 ⟨(Nat.le_of_ble_eq_true rfl), (Nat.le_of_ble_eq_true rfl)⟩) ?_
    refine va_mmax hx hb (hml.trans hl.1.symm) hown (hts (.methodLink RX5 104 Lib.Math.max.name) (by decide +kernel)) (hts (.static Lib.Math.max.name) (by decide +kernel)) (hts (.initialized "java/lang/Math") (by decide +kernel)) (hts (.code Lib.Math.max.name Lib.Math.max.code 2 (some .int)) (by decide +kernel)) (Nat.le_of_ble_eq_true rfl) (Nat.le_of_ble_eq_true rfl) (Nat.le_of_ble_eq_true rfl) (Nat.le_of_ble_eq_true rfl) dX5_beginning_16 ?_
    refine lv_topi (fun x5 ex5 => ?_)
    have hf := bd_s hf ex5
    refine lv_goto (tgt := 30) hx hb dX5_beginning_19 (by decide) ?_
    exact W.iret hx hb hr (fun t ht _ => ⟨_, rfl, Option.some.inj hf, ht⟩) (fun q hq => absurd hq List.not_mem_nil) dX5_beginning_30
set_option maxHeartbeats 4000000 in
set_option maxRecDepth 100000 in
theorem m_X5_coupon (l : Launch) (D : va_G) (cI cJ cO : ClassId) (hm : Nat) (mh : Nat) (mo : Nat) (my : Nat) (mp : Nat) (M : Nat → Int32) (mc : Int64) (mhol : Nat → Int32) (mof : Nat → Int32) (mdy : Nat → Int32) (mpd : Nat → Int64) (a0 : Int32) (a1 : Int32) (a2 : Int64) (N : Nat) (r : Int32) (hf : f_X5_coupon N mof mdy a0 a1 a2 = some r) : Met l yX5_coupon wsX5_coupon ({ frames := 3, cells := 0, slots := 0, locals := 71 }) (va_Pc [.ref hm, .int a0, .int a1, .long a2] (pw D (ty3 cI cJ cO) none [eM hm mh mo my mp M mc, eH cI mh mhol, eO cI mo mof, eY cI my mdy, eP cJ mp mpd])) (QSi r) 0 0 (fun _ => False) := by
  refine Met.ofW (cc := cX5_coupon) (maxL := 5) (ret := (some .int)) (by decide) rfl ?_
  intro p e s m args below meth c s₁ Bd hml hv
  obtain ⟨rfl, hZ, hP, hK⟩ := hv
  have hx := Bd.exec
  have hb := Bd.bytes
  have hr := Bd.returns
  have hts := atoms_spec (ws := wsX5_coupon) Bd.pre
  have hown : s.vm.findClass RX5 = some m.cls := findClass_of_methodNamed Bd.named
  have hlocks := Bd.notSynchronized
  have hl := lv_entry ([.ref hm, .int a0, .int a1, .long a2]) (n := 5) (Nat.le_of_ble_eq_true rfl)
  rw [lg_entry_eq]
  generalize (lg_sl ([.ref hm, .int a0, .int a1, .long a2]) ++ List.replicate (5 - (lg_sl ([.ref hm, .int a0, .int a1, .long a2])).length) Slot.unset).toArray = ls at hl ⊢
  have hl : lv_has ls 5 [(0, .ref hm), (1, .int a0), (2, .int a1), (3, .long a2)] := hl
  unfold f_X5_coupon at hf
  refine lv_iload_n hx hb dX5_coupon_0 rfl (lv_at hl 2 rfl) ?_
  obtain ⟨K1, hK1, hf⟩ := jn_s hf
  have JK1 : ∀  (ls : Array Slot), lv_has ls 5 [(0, .ref hm), (1, .int a0), (3, .long a2)] → K1 () = some r → W p l e (headSpec wsX5_coupon ({ frames := 3, cells := 0, slots := 0, locals := 71 })).room s m ([.ref hm, .int a0, .int a1, .long a2] : List Value).toArray below meth c s.heap [] 0 0 (MQ below (QSi r) ([.ref hm, .int a0, .int a1, .long a2] : List Value).toArray s 0 0 (fun _ => False)) (F0 m 40 ls []) := by
    intro  ls hl hf
    rw [hK1] at hf
    refine lv_lload_n hx hb dX5_coupon_40 rfl (lv_at hl 2 rfl) ?_
    refine lv_aload_n hx hb dX5_coupon_41 rfl (lv_at hl 0 rfl) ?_
    refine lv_iload_n hx hb dX5_coupon_42 rfl (lv_at hl 1 rfl) ?_
    refine lv_iconst (v := 2) hx hb dX5_coupon_43 (by decide) ?_
    obtain ⟨v2, hv2, hf⟩ := ob hf
    refine cSi (W.runV (As := [.int a0, .int 2]) (rest := [.long a2]) ⟨hx, hb, hml, hown, hts⟩ (m_X5_own l D cI cJ cO hm mh mo my mp M mc mhol mof mdy mpd a0 2 v2 hv2) (cwV 2 hts gX5_coupon_X5_own rfl rfl rfl (by decide +kernel) ⟨(Nat.le_of_ble_eq_true rfl), (Nat.le_of_ble_eq_true rfl)⟩) ⟨pw_blind, va_recv hK hP (ci := 4) (q0 := 0) rfl rfl, fun U hU hW => ⟨rfl, pw_at hZ va_S.rf hP hK hU hW (Or.inr rfl) [0, 1, 2, 3, 4] rfl⟩⟩ rfl rfl hl.1 rfl (lv_room (Nat.le_of_ble_eq_true rfl)) dX5_coupon_44 ⟨(Nat.le_of_ble_eq_true rfl), (Nat.le_of_ble_eq_true rfl)⟩) ?_
    refine lv_i2l hx hb dX5_coupon_47 rfl ?_
    refine lv_lmul hx hb dX5_coupon_48 ?_
    refine lv_ldc2 hx hb hown (hts (.constantLong RX5 132 (10000)) (by decide +kernel)) dX5_coupon_49 ?_
    refine lv_aload_n hx hb dX5_coupon_52 rfl (lv_at hl 0 rfl) ?_
    refine lv_iload_n hx hb dX5_coupon_53 rfl (lv_at hl 1 rfl) ?_
    refine lv_iconst (v := 3) hx hb dX5_coupon_54 (by decide) ?_
    obtain ⟨v3, hv3, hf⟩ := ob hf
    refine cSi (W.runV (As := [.int a0, .int 3]) (rest := [.long 10000, .long (a2 * v2.toInt64)]) ⟨hx, hb, hml, hown, hts⟩ (m_X5_own l D cI cJ cO hm mh mo my mp M mc mhol mof mdy mpd a0 3 v3 hv3) (cwV 2 hts gX5_coupon_X5_own rfl rfl rfl (by decide +kernel) ⟨(Nat.le_of_ble_eq_true rfl), (Nat.le_of_ble_eq_true rfl)⟩) ⟨pw_blind, va_recv hK hP (ci := 4) (q0 := 0) rfl rfl, fun U hU hW => ⟨rfl, pw_at hZ va_S.rf hP hK hU hW (Or.inr rfl) [0, 1, 2, 3, 4] rfl⟩⟩ rfl rfl hl.1 rfl (lv_room (Nat.le_of_ble_eq_true rfl)) dX5_coupon_55 ⟨(Nat.le_of_ble_eq_true rfl), (Nat.le_of_ble_eq_true rfl)⟩) ?_
    refine lv_i2l hx hb dX5_coupon_58 rfl ?_
    refine lv_lmul hx hb dX5_coupon_59 ?_
    refine lv_topl (fun x4 ex4 => ?_)
    have hf := bd_s hf ex4
    obtain ⟨c5, hf⟩ := gd_s hf
    refine lv_ldiv hx hb dX5_coupon_60 c5 ?_
    refine lv_l2i hx hb dX5_coupon_61 rfl ?_
    exact W.iret hx hb hr (fun t ht _ => ⟨_, rfl, Option.some.inj hf, ht⟩) (fun q hq => absurd hq List.not_mem_nil) dX5_coupon_62
  refine lv_if_ne (tgt := 40) hx hb dX5_coupon_1 (by decide) (fun c6 => ?_) (fun c6 => ?_)
  · have hf := ie hf c6
    exact JK1  ls (lv_sub hl [0, 1, 3] rfl) hf
  · have hf := it hf c6
    refine lv_aload_n hx hb dX5_coupon_4 rfl (lv_at hl 0 rfl) ?_
    refine lv_iload_n hx hb dX5_coupon_5 rfl (lv_at hl 1 rfl) ?_
    refine lv_iconst (v := (-1)) hx hb dX5_coupon_6 (by decide) ?_
    obtain ⟨v7, hv7, hf⟩ := ob hf
    refine cSi (W.runV (As := [.int a0, .int (-1)]) (rest := []) ⟨hx, hb, hml, hown, hts⟩ (m_X5_couponDay l D cI cJ cO hm mh mo my mp M mc mhol mof mdy mpd a0 (-1) v7 hv7) (cwV 2 hts gX5_coupon_X5_couponDay rfl rfl rfl (by decide +kernel) ⟨(Nat.le_of_ble_eq_true rfl), (Nat.le_of_ble_eq_true rfl)⟩) ⟨pw_blind, va_recv hK hP (ci := 4) (q0 := 0) rfl rfl, fun U hU hW => ⟨rfl, pw_at hZ va_S.rf hP hK hU hW (Or.inr rfl) [0, 1, 2, 3, 4] rfl⟩⟩ rfl rfl hl.1 rfl (lv_room (Nat.le_of_ble_eq_true rfl)) dX5_coupon_7 ⟨(Nat.le_of_ble_eq_true rfl), (Nat.le_of_ble_eq_true rfl)⟩) ?_
    refine lv_aload_n hx hb dX5_coupon_10 rfl (lv_at hl 0 rfl) ?_
    refine lv_iload_n hx hb dX5_coupon_11 rfl (lv_at hl 1 rfl) ?_
    refine lv_iconst (v := 0) hx hb dX5_coupon_12 (by decide) ?_
    obtain ⟨v8, hv8, hf⟩ := ob hf
    refine cSi (W.runV (As := [.int a0, .int 0]) (rest := [.int v7]) ⟨hx, hb, hml, hown, hts⟩ (m_X5_own l D cI cJ cO hm mh mo my mp M mc mhol mof mdy mpd a0 0 v8 hv8) (cwV 2 hts gX5_coupon_X5_own rfl rfl rfl (by decide +kernel) ⟨(Nat.le_of_ble_eq_true rfl), (Nat.le_of_ble_eq_true rfl)⟩) ⟨pw_blind, va_recv hK hP (ci := 4) (q0 := 0) rfl rfl, fun U hU hW => ⟨rfl, pw_at hZ va_S.rf hP hK hU hW (Or.inr rfl) [0, 1, 2, 3, 4] rfl⟩⟩ rfl rfl hl.1 rfl (lv_room (Nat.le_of_ble_eq_true rfl)) dX5_coupon_13 ⟨(Nat.le_of_ble_eq_true rfl), (Nat.le_of_ble_eq_true rfl)⟩) ?_
    refine lv_icmp_ge (tgt := 40) hx hb dX5_coupon_16 (by decide) (fun c9 => ?_) (fun c9 => ?_)
    · have hf := it hf c9
      exact JK1  ls (lv_sub hl [0, 1, 3] rfl) hf
    · have hf := ie hf c9
      refine lv_aload_n hx hb dX5_coupon_19 rfl (lv_at hl 0 rfl) ?_
      refine lv_iload_n hx hb dX5_coupon_20 rfl (lv_at hl 1 rfl) ?_
      refine lv_lload_n hx hb dX5_coupon_21 rfl (lv_at hl 3 rfl) ?_
      refine lv_l2i hx hb dX5_coupon_22 rfl ?_
      refine lv_aload_n hx hb dX5_coupon_23 rfl (lv_at hl 0 rfl) ?_
      refine lv_iload_n hx hb dX5_coupon_24 rfl (lv_at hl 1 rfl) ?_
      refine lv_iconst (v := 0) hx hb dX5_coupon_25 (by decide) ?_
      obtain ⟨v10, hv10, hf⟩ := ob hf
      refine cSi (W.runV (As := [.int a0, .int 0]) (rest := [.int a2.toInt32, .int a0, .ref hm]) ⟨hx, hb, hml, hown, hts⟩ (m_X5_own l D cI cJ cO hm mh mo my mp M mc mhol mof mdy mpd a0 0 v10 hv10) (cwV 2 hts gX5_coupon_X5_own rfl rfl rfl (by decide +kernel) ⟨(Nat.le_of_ble_eq_true rfl), (Nat.le_of_ble_eq_true rfl)⟩) ⟨pw_blind, va_recv hK hP (ci := 4) (q0 := 0) rfl rfl, fun U hU hW => ⟨rfl, pw_at hZ va_S.rf hP hK hU hW (Or.inr rfl) [0, 1, 2, 3, 4] rfl⟩⟩ rfl rfl hl.1 rfl (lv_room (Nat.le_of_ble_eq_true rfl)) dX5_coupon_26 ⟨(Nat.le_of_ble_eq_true rfl), (Nat.le_of_ble_eq_true rfl)⟩) ?_
      refine lv_aload_n hx hb dX5_coupon_29 rfl (lv_at hl 0 rfl) ?_
      refine lv_iload_n hx hb dX5_coupon_30 rfl (lv_at hl 1 rfl) ?_
      refine lv_iconst (v := 0) hx hb dX5_coupon_31 (by decide) ?_
      obtain ⟨v11, hv11, hf⟩ := ob hf
      refine cSi (W.runV (As := [.int a0, .int 0]) (rest := [.int v10, .int a2.toInt32, .int a0, .ref hm]) ⟨hx, hb, hml, hown, hts⟩ (m_X5_couponDay l D cI cJ cO hm mh mo my mp M mc mhol mof mdy mpd a0 0 v11 hv11) (cwV 2 hts gX5_coupon_X5_couponDay rfl rfl rfl (by decide +kernel) ⟨(Nat.le_of_ble_eq_true rfl), (Nat.le_of_ble_eq_true rfl)⟩) ⟨pw_blind, va_recv hK hP (ci := 4) (q0 := 0) rfl rfl, fun U hU hW => ⟨rfl, pw_at hZ va_S.rf hP hK hU hW (Or.inr rfl) [0, 1, 2, 3, 4] rfl⟩⟩ rfl rfl hl.1 rfl (lv_room (Nat.le_of_ble_eq_true rfl)) dX5_coupon_32 ⟨(Nat.le_of_ble_eq_true rfl), (Nat.le_of_ble_eq_true rfl)⟩) ?_
      refine lv_iconst (v := 0) hx hb dX5_coupon_35 (by decide) ?_
      obtain ⟨v12, hv12, hf⟩ := ob hf
      refine cSi (W.runV (As := [.int a0, .int a2.toInt32, .int v10, .int v11, .int 0]) (rest := []) ⟨hx, hb, hml, hown, hts⟩ (m_X5_interest l D cI cJ cO hm mh mo my mp M mc mhol mof mdy mpd a0 a2.toInt32 v10 v11 0 N v12 hv12) (cwV 5 hts gX5_coupon_X5_interest rfl rfl rfl (by decide +kernel) ⟨(Nat.le_of_ble_eq_true rfl), (Nat.le_of_ble_eq_true rfl)⟩) ⟨pw_blind, va_recv hK hP (ci := 4) (q0 := 0) rfl rfl, fun U hU hW => ⟨rfl, pw_at hZ va_S.rf hP hK hU hW (Or.inr rfl) [0, 1, 2, 3, 4] rfl⟩⟩ rfl rfl hl.1 rfl (lv_room (Nat.le_of_ble_eq_true rfl)) dX5_coupon_36 ⟨(Nat.le_of_ble_eq_true rfl), (Nat.le_of_ble_eq_true rfl)⟩) ?_
      exact W.iret hx hb hr (fun t ht _ => ⟨_, rfl, Option.some.inj hf, ht⟩) (fun q hq => absurd hq List.not_mem_nil) dX5_coupon_39
set_option maxHeartbeats 4000000 in
set_option maxRecDepth 100000 in
theorem m_X5_couponTold (l : Launch) (D : va_G) (cI cJ cO : ClassId) (hm : Nat) (mh : Nat) (mo : Nat) (my : Nat) (mp : Nat) (M : Nat → Int32) (mc : Int64) (mhol : Nat → Int32) (mof : Nat → Int32) (mdy : Nat → Int32) (mpd : Nat → Int64) (a0 : Int32) (a1 : Int32) (a2 : Int32) (N : Nat) (r : Int32) (hf : f_X5_couponTold N M mhol mof mdy a0 a1 a2 = some r) : Met l yX5_couponTold wsX5_couponTold ({ frames := 4, cells := 0, slots := 0, locals := 95 }) (va_Pc [.ref hm, .int a0, .int a1, .int a2] (pw D (ty3 cI cJ cO) none [eM hm mh mo my mp M mc, eH cI mh mhol, eO cI mo mof, eY cI my mdy, eP cJ mp mpd])) (QSi r) 0 0 (fun _ => False) := by
  refine Met.ofW (cc := cX5_couponTold) (maxL := 4) (ret := (some .int)) (by decide) rfl ?_
  intro p e s m args below meth c s₁ Bd hml hv
  obtain ⟨rfl, hZ, hP, hK⟩ := hv
  have hx := Bd.exec
  have hb := Bd.bytes
  have hr := Bd.returns
  have hts := atoms_spec (ws := wsX5_couponTold) Bd.pre
  have hown : s.vm.findClass RX5 = some m.cls := findClass_of_methodNamed Bd.named
  have hlocks := Bd.notSynchronized
  have hl := lv_entry ([.ref hm, .int a0, .int a1, .int a2]) (n := 4) (Nat.le_of_ble_eq_true rfl)
  rw [lg_entry_eq]
  generalize (lg_sl ([.ref hm, .int a0, .int a1, .int a2]) ++ List.replicate (4 - (lg_sl ([.ref hm, .int a0, .int a1, .int a2])).length) Slot.unset).toArray = ls at hl ⊢
  have hl : lv_has ls 4 [(0, .ref hm), (1, .int a0), (2, .int a1), (3, .int a2)] := hl
  unfold f_X5_couponTold at hf
  refine lv_iload_n hx hb dX5_couponTold_0 rfl (lv_at hl 3 rfl) ?_
  by_cases c1 : a2 = 0
  · have hf := it hf c1
    refine lv_tableIn (off := 27) (tgt := 28) hx hb dX5_couponTold_1 (by rw [c1]; decide) (by rw [c1]; decide) (by rw [c1]; rfl) (by decide) ?_
    refine lv_aload_n hx hb dX5_couponTold_28 rfl (lv_at hl 0 rfl) ?_
    refine lv_iload_n hx hb dX5_couponTold_29 rfl (lv_at hl 1 rfl) ?_
    refine lv_iload_n hx hb dX5_couponTold_30 rfl (lv_at hl 2 rfl) ?_
    obtain ⟨v2, hv2, hf⟩ := ob hf
    refine cSi (W.runV (As := [.int a0, .int a1]) (rest := []) ⟨hx, hb, hml, hown, hts⟩ (m_X5_couponDay l D cI cJ cO hm mh mo my mp M mc mhol mof mdy mpd a0 a1 v2 hv2) (cwV 2 hts gX5_couponTold_X5_couponDay rfl rfl rfl (by decide +kernel) ⟨(Nat.le_of_ble_eq_true rfl), (Nat.le_of_ble_eq_true rfl)⟩) ⟨pw_blind, va_recv hK hP (ci := 4) (q0 := 0) rfl rfl, fun U hU hW => ⟨rfl, pw_at hZ va_S.rf hP hK hU hW (Or.inr rfl) [0, 1, 2, 3, 4] rfl⟩⟩ rfl rfl hl.1 rfl (lv_room (Nat.le_of_ble_eq_true rfl)) dX5_couponTold_31 ⟨(Nat.le_of_ble_eq_true rfl), (Nat.le_of_ble_eq_true rfl)⟩) ?_
    obtain ⟨v3, hv3, hf⟩ := ob hf
    refine cSi (W.runS (As := [.int v2]) (rest := []) ⟨hx, hb, hml, hown, hts⟩ (m_X5_date l D cI cJ cO v2 N v3 hv3) (va_cwS 1 hts gX5_couponTold_X5_date rfl rfl rfl (by decide +kernel) ⟨(Nat.le_of_ble_eq_true rfl), (Nat.le_of_ble_eq_true rfl)⟩) ⟨pw_blind, fun U hU hW => ⟨rfl, pw_at hZ va_S.rf hP hK hU hW (Or.inr rfl) [] rfl⟩⟩ rfl rfl hl.1 rfl (lv_room (Nat.le_of_ble_eq_true rfl)) dX5_couponTold_34 ⟨(Nat.le_of_ble_eq_true rfl), (Nat.le_of_ble_eq_true rfl)⟩) ?_
    exact W.iret hx hb hr (fun t ht _ => ⟨_, rfl, Option.some.inj hf, ht⟩) (fun q hq => absurd hq List.not_mem_nil) dX5_couponTold_37
  have hf := ie hf c1
  by_cases c4 : a2 = 1
  · have hf := it hf c4
    refine lv_tableIn (off := 37) (tgt := 38) hx hb dX5_couponTold_1 (by rw [c4]; decide) (by rw [c4]; decide) (by rw [c4]; rfl) (by decide) ?_
    refine lv_aload_n hx hb dX5_couponTold_38 rfl (lv_at hl 0 rfl) ?_
    refine lv_aload_n hx hb dX5_couponTold_39 rfl (lv_at hl 0 rfl) ?_
    refine lv_iload_n hx hb dX5_couponTold_40 rfl (lv_at hl 1 rfl) ?_
    refine lv_iload_n hx hb dX5_couponTold_41 rfl (lv_at hl 2 rfl) ?_
    obtain ⟨v5, hv5, hf⟩ := ob hf
    refine cSi (W.runV (As := [.int a0, .int a1]) (rest := [.ref hm]) ⟨hx, hb, hml, hown, hts⟩ (m_X5_couponDay l D cI cJ cO hm mh mo my mp M mc mhol mof mdy mpd a0 a1 v5 hv5) (cwV 2 hts gX5_couponTold_X5_couponDay rfl rfl rfl (by decide +kernel) ⟨(Nat.le_of_ble_eq_true rfl), (Nat.le_of_ble_eq_true rfl)⟩) ⟨pw_blind, va_recv hK hP (ci := 4) (q0 := 0) rfl rfl, fun U hU hW => ⟨rfl, pw_at hZ va_S.rf hP hK hU hW (Or.inr rfl) [0, 1, 2, 3, 4] rfl⟩⟩ rfl rfl hl.1 rfl (lv_room (Nat.le_of_ble_eq_true rfl)) dX5_couponTold_42 ⟨(Nat.le_of_ble_eq_true rfl), (Nat.le_of_ble_eq_true rfl)⟩) ?_
    obtain ⟨v6, hv6, hf⟩ := ob hf
    refine cSi (W.runV (As := [.int v5]) (rest := []) ⟨hx, hb, hml, hown, hts⟩ (m_X5_firstWorking l D cI cJ cO hm mh mo my mp M mc mhol mof mdy mpd v5 N v6 hv6) (cwV 1 hts gX5_couponTold_X5_firstWorking rfl rfl rfl (by decide +kernel) ⟨(Nat.le_of_ble_eq_true rfl), (Nat.le_of_ble_eq_true rfl)⟩) ⟨pw_blind, va_recv hK hP (ci := 4) (q0 := 0) rfl rfl, fun U hU hW => ⟨rfl, pw_at hZ va_S.rf hP hK hU hW (Or.inr rfl) [0, 1, 2, 3, 4] rfl⟩⟩ rfl rfl hl.1 rfl (lv_room (Nat.le_of_ble_eq_true rfl)) dX5_couponTold_45 ⟨(Nat.le_of_ble_eq_true rfl), (Nat.le_of_ble_eq_true rfl)⟩) ?_
    obtain ⟨v7, hv7, hf⟩ := ob hf
    refine cSi (W.runS (As := [.int v6]) (rest := []) ⟨hx, hb, hml, hown, hts⟩ (m_X5_date l D cI cJ cO v6 N v7 hv7) (va_cwS 1 hts gX5_couponTold_X5_date rfl rfl rfl (by decide +kernel) ⟨(Nat.le_of_ble_eq_true rfl), (Nat.le_of_ble_eq_true rfl)⟩) ⟨pw_blind, fun U hU hW => ⟨rfl, pw_at hZ va_S.rf hP hK hU hW (Or.inr rfl) [] rfl⟩⟩ rfl rfl hl.1 rfl (lv_room (Nat.le_of_ble_eq_true rfl)) dX5_couponTold_48 ⟨(Nat.le_of_ble_eq_true rfl), (Nat.le_of_ble_eq_true rfl)⟩) ?_
    exact W.iret hx hb hr (fun t ht _ => ⟨_, rfl, Option.some.inj hf, ht⟩) (fun q hq => absurd hq List.not_mem_nil) dX5_couponTold_51
  have hf := ie hf c4
  by_cases c8 : a2 = 2
  · have hf := it hf c8
    refine lv_tableIn (off := 51) (tgt := 52) hx hb dX5_couponTold_1 (by rw [c8]; decide) (by rw [c8]; decide) (by rw [c8]; rfl) (by decide) ?_
    refine lv_aload_n hx hb dX5_couponTold_52 rfl (lv_at hl 0 rfl) ?_
    refine lv_iload_n hx hb dX5_couponTold_53 rfl (lv_at hl 1 rfl) ?_
    refine lv_iload_n hx hb dX5_couponTold_54 rfl (lv_at hl 2 rfl) ?_
    obtain ⟨v9, hv9, hf⟩ := ob hf
    refine cSi (W.runV (As := [.int a0, .int a1]) (rest := []) ⟨hx, hb, hml, hown, hts⟩ (m_X5_beginning l D cI cJ cO hm mh mo my mp M mc mhol mof mdy mpd a0 a1 v9 hv9) (cwV 2 hts gX5_couponTold_X5_beginning rfl rfl rfl (by decide +kernel) ⟨(Nat.le_of_ble_eq_true rfl), (Nat.le_of_ble_eq_true rfl)⟩) ⟨pw_blind, va_recv hK hP (ci := 4) (q0 := 0) rfl rfl, fun U hU hW => ⟨rfl, pw_at hZ va_S.rf hP hK hU hW (Or.inr rfl) [0, 1, 2, 3, 4] rfl⟩⟩ rfl rfl hl.1 rfl (lv_room (Nat.le_of_ble_eq_true rfl)) dX5_couponTold_55 ⟨(Nat.le_of_ble_eq_true rfl), (Nat.le_of_ble_eq_true rfl)⟩) ?_
    obtain ⟨v10, hv10, hf⟩ := ob hf
    refine cSi (W.runS (As := [.int v9]) (rest := []) ⟨hx, hb, hml, hown, hts⟩ (m_X5_date l D cI cJ cO v9 N v10 hv10) (va_cwS 1 hts gX5_couponTold_X5_date rfl rfl rfl (by decide +kernel) ⟨(Nat.le_of_ble_eq_true rfl), (Nat.le_of_ble_eq_true rfl)⟩) ⟨pw_blind, fun U hU hW => ⟨rfl, pw_at hZ va_S.rf hP hK hU hW (Or.inr rfl) [] rfl⟩⟩ rfl rfl hl.1 rfl (lv_room (Nat.le_of_ble_eq_true rfl)) dX5_couponTold_58 ⟨(Nat.le_of_ble_eq_true rfl), (Nat.le_of_ble_eq_true rfl)⟩) ?_
    exact W.iret hx hb hr (fun t ht _ => ⟨_, rfl, Option.some.inj hf, ht⟩) (fun q hq => absurd hq List.not_mem_nil) dX5_couponTold_61
  have hf := ie hf c8
  have tc1 : ¬ a2.toInt = 0 := ne_ti c1
  have tc4 : ¬ a2.toInt = 1 := ne_ti c4
  have tc8 : ¬ a2.toInt = 2 := ne_ti c8
  refine lv_tableOut (tgt := 62) hx hb dX5_couponTold_1 (by omega) (by decide) ?_
  refine lv_aload_n hx hb dX5_couponTold_62 rfl (lv_at hl 0 rfl) ?_
  refine lv_iload_n hx hb dX5_couponTold_63 rfl (lv_at hl 1 rfl) ?_
  refine lv_iload_n hx hb dX5_couponTold_64 rfl (lv_at hl 2 rfl) ?_
  refine lv_ldc2 hx hb hown (hts (.constantLong RX5 141 (100000)) (by decide +kernel)) dX5_couponTold_65 ?_
  obtain ⟨v11, hv11, hf⟩ := ob hf
  refine cSi (W.runV (As := [.int a0, .int a1, .long 100000]) (rest := []) ⟨hx, hb, hml, hown, hts⟩ (m_X5_coupon l D cI cJ cO hm mh mo my mp M mc mhol mof mdy mpd a0 a1 100000 N v11 hv11) (cwV 3 hts gX5_couponTold_X5_coupon rfl rfl rfl (by decide +kernel) ⟨(Nat.le_of_ble_eq_true rfl), (Nat.le_of_ble_eq_true rfl)⟩) ⟨pw_blind, va_recv hK hP (ci := 4) (q0 := 0) rfl rfl, fun U hU hW => ⟨rfl, pw_at hZ va_S.rf hP hK hU hW (Or.inr rfl) [0, 1, 2, 3, 4] rfl⟩⟩ rfl rfl hl.1 rfl (lv_room (Nat.le_of_ble_eq_true rfl)) dX5_couponTold_68 ⟨(Nat.le_of_ble_eq_true rfl), (Nat.le_of_ble_eq_true rfl)⟩) ?_
  exact W.iret hx hb hr (fun t ht _ => ⟨_, rfl, Option.some.inj hf, ht⟩) (fun q hq => absurd hq List.not_mem_nil) dX5_couponTold_71
set_option maxHeartbeats 4000000 in
set_option maxRecDepth 100000 in
theorem m_X5_behind (l : Launch) (D : va_G) (cI cJ cO : ClassId) (hm : Nat) (mh : Nat) (mo : Nat) (my : Nat) (mp : Nat) (M : Nat → Int32) (mc : Int64) (mhol : Nat → Int32) (mof : Nat → Int32) (mdy : Nat → Int32) (mpd : Nat → Int64) (a0 : Int32) (a1 : Int32) (N : Nat) (r : Int32) (hf : f_X5_behind N mof mdy a0 a1 = some r) : Met l yX5_behind wsX5_behind ({ frames := 1, cells := 0, slots := 0, locals := 22 }) (va_Pc [.ref hm, .int a0, .int a1] (pw D (ty3 cI cJ cO) none [eM hm mh mo my mp M mc, eH cI mh mhol, eO cI mo mof, eY cI my mdy, eP cJ mp mpd])) (QSi r) 0 0 (fun _ => False) := by
  refine Met.ofW (cc := cX5_behind) (maxL := 4) (ret := (some .int)) (by decide) rfl ?_
  intro p e s m args below meth c s₁ Bd hml hv
  obtain ⟨rfl, hZ, hP, hK⟩ := hv
  have hx := Bd.exec
  have hb := Bd.bytes
  have hr := Bd.returns
  have hts := atoms_spec (ws := wsX5_behind) Bd.pre
  have hown : s.vm.findClass RX5 = some m.cls := findClass_of_methodNamed Bd.named
  have hlocks := Bd.notSynchronized
  have hl := lv_entry ([.ref hm, .int a0, .int a1]) (n := 4) (Nat.le_of_ble_eq_true rfl)
  rw [lg_entry_eq]
  generalize (lg_sl ([.ref hm, .int a0, .int a1]) ++ List.replicate (4 - (lg_sl ([.ref hm, .int a0, .int a1])).length) Slot.unset).toArray = ls at hl ⊢
  have hl : lv_has ls 4 [(0, .ref hm), (1, .int a0), (2, .int a1)] := hl
  unfold f_X5_behind at hf
  refine lv_iconst (v := 0) hx hb dX5_behind_0 (by decide) ?_
  refine lv_istore_n (lv' := [(3, .int 0), (0, .ref hm), (1, .int a0), (2, .int a1)]) hx hb dX5_behind_1 rfl hl (by decide) rfl (fun ls hl => ?_)
  have LP2 : ∀ (n2 : Nat) (x1 : Int32) (ls : Array Slot), lv_has ls 4 [(0, .ref hm), (1, .int a0), (2, .int a1), (3, .int x1)] → f_X5_behind_L2 mof a0 mdy a1 n2 x1 = some r → W p l e (headSpec wsX5_behind ({ frames := 1, cells := 0, slots := 0, locals := 22 })).room s m ([.ref hm, .int a0, .int a1] : List Value).toArray below meth c s.heap [] 0 0 (MQ below (QSi r) ([.ref hm, .int a0, .int a1] : List Value).toArray s 0 0 (fun _ => False)) (F0 m 2 ls []) := by
    intro n2
    induction n2 with
    | zero => intro x1 ls hl hf; exact (no_s hf).elim
    | succ n2 ih2 =>
      intro x1 ls hl hf
      rw [f_X5_behind_L2] at hf
      refine lv_iload_n hx hb dX5_behind_2 rfl (lv_at hl 3 rfl) ?_
      refine lv_aload_n hx hb dX5_behind_3 rfl (lv_at hl 0 rfl) ?_
      refine lv_iload_n hx hb dX5_behind_4 rfl (lv_at hl 1 rfl) ?_
      refine lv_bipush (v := 6) hx hb dX5_behind_5 (by decide) ?_
      obtain ⟨v3, hv3, hf⟩ := ob hf
      refine cSi (W.runV (As := [.int a0, .int 6]) (rest := [.int x1]) ⟨hx, hb, hml, hown, hts⟩ (m_X5_own l D cI cJ cO hm mh mo my mp M mc mhol mof mdy mpd a0 6 v3 hv3) (cwV 2 hts gX5_behind_X5_own rfl rfl rfl (by decide +kernel) ⟨(Nat.le_of_ble_eq_true rfl), (Nat.le_of_ble_eq_true rfl)⟩) ⟨pw_blind, va_recv hK hP (ci := 4) (q0 := 0) rfl rfl, fun U hU hW => ⟨rfl, pw_at hZ va_S.rf hP hK hU hW (Or.inr rfl) [0, 1, 2, 3, 4] rfl⟩⟩ rfl rfl hl.1 rfl (lv_room (Nat.le_of_ble_eq_true rfl)) dX5_behind_7 ⟨(Nat.le_of_ble_eq_true rfl), (Nat.le_of_ble_eq_true rfl)⟩) ?_
      refine lv_icmp_ge (tgt := 29) hx hb dX5_behind_10 (by decide) (fun c4 => ?_) (fun c4 => ?_)
      · have hf := it hf c4
        refine lv_iload_n hx hb dX5_behind_29 rfl (lv_at hl 3 rfl) ?_
        exact W.iret hx hb hr (fun t ht _ => ⟨_, rfl, Option.some.inj hf, ht⟩) (fun q hq => absurd hq List.not_mem_nil) dX5_behind_30
      · have hf := ie hf c4
        refine lv_aload_n hx hb dX5_behind_13 rfl (lv_at hl 0 rfl) ?_
        refine lv_iload_n hx hb dX5_behind_14 rfl (lv_at hl 1 rfl) ?_
        refine lv_iload_n hx hb dX5_behind_15 rfl (lv_at hl 3 rfl) ?_
        obtain ⟨v5, hv5, hf⟩ := ob hf
        refine cSi (W.runV (As := [.int a0, .int x1]) (rest := []) ⟨hx, hb, hml, hown, hts⟩ (m_X5_couponDay l D cI cJ cO hm mh mo my mp M mc mhol mof mdy mpd a0 x1 v5 hv5) (cwV 2 hts gX5_behind_X5_couponDay rfl rfl rfl (by decide +kernel) ⟨(Nat.le_of_ble_eq_true rfl), (Nat.le_of_ble_eq_true rfl)⟩) ⟨pw_blind, va_recv hK hP (ci := 4) (q0 := 0) rfl rfl, fun U hU hW => ⟨rfl, pw_at hZ va_S.rf hP hK hU hW (Or.inr rfl) [0, 1, 2, 3, 4] rfl⟩⟩ rfl rfl hl.1 rfl (lv_room (Nat.le_of_ble_eq_true rfl)) dX5_behind_16 ⟨(Nat.le_of_ble_eq_true rfl), (Nat.le_of_ble_eq_true rfl)⟩) ?_
        refine lv_iload_n hx hb dX5_behind_19 rfl (lv_at hl 2 rfl) ?_
        refine lv_icmp_gt (tgt := 29) hx hb dX5_behind_20 (by decide) (fun c6 => ?_) (fun c6 => ?_)
        · have hf := it hf c6
          refine lv_iload_n hx hb dX5_behind_29 rfl (lv_at hl 3 rfl) ?_
          exact W.iret hx hb hr (fun t ht _ => ⟨_, rfl, Option.some.inj hf, ht⟩) (fun q hq => absurd hq List.not_mem_nil) dX5_behind_30
        · have hf := ie hf c6
          obtain ⟨x7, ex7⟩ : ∃ y : Int32, y = x1 + 1 := ⟨_, rfl⟩
          have hf := bd_s hf ex7
          refine lv_iinc (v := x7) (lv' := [(3, .int x7), (0, .ref hm), (1, .int a0), (2, .int a1)]) hx hb dX5_behind_23 hl (k := 3) rfl (by rw [ex7]; rfl) (by decide) rfl (fun ls hl => ?_)
          refine lv_goto (tgt := 2) hx hb dX5_behind_26 (by decide) ?_
          exact ih2 x7 ls (lv_sub hl [1, 2, 3, 0] rfl) hf
  exact LP2 N 0 ls (lv_sub hl [1, 2, 3, 0] rfl) hf
set_option maxHeartbeats 4000000 in
set_option maxRecDepth 100000 in
theorem m_X5_accruedOn (l : Launch) (D : va_G) (cI cJ cO : ClassId) (hm : Nat) (mh : Nat) (mo : Nat) (my : Nat) (mp : Nat) (M : Nat → Int32) (mc : Int64) (mhol : Nat → Int32) (mof : Nat → Int32) (mdy : Nat → Int32) (mpd : Nat → Int64) (a0 : Int32) (a1 : Int32) (N : Nat) (r : Int32) (hf : f_X5_accruedOn N mof mdy a0 a1 = some r) : Met l yX5_accruedOn wsX5_accruedOn ({ frames := 3, cells := 0, slots := 0, locals := 71 }) (va_Pc [.ref hm, .int a0, .int a1] (pw D (ty3 cI cJ cO) none [eM hm mh mo my mp M mc, eH cI mh mhol, eO cI mo mof, eY cI my mdy, eP cJ mp mpd])) (QSi r) 0 0 (fun _ => False) := by
  refine Met.ofW (cc := cX5_accruedOn) (maxL := 4) (ret := (some .int)) (by decide) rfl ?_
  intro p e s m args below meth c s₁ Bd hml hv
  obtain ⟨rfl, hZ, hP, hK⟩ := hv
  have hx := Bd.exec
  have hb := Bd.bytes
  have hr := Bd.returns
  have hts := atoms_spec (ws := wsX5_accruedOn) Bd.pre
  have hown : s.vm.findClass RX5 = some m.cls := findClass_of_methodNamed Bd.named
  have hlocks := Bd.notSynchronized
  have hl := lv_entry ([.ref hm, .int a0, .int a1]) (n := 4) (Nat.le_of_ble_eq_true rfl)
  rw [lg_entry_eq]
  generalize (lg_sl ([.ref hm, .int a0, .int a1]) ++ List.replicate (4 - (lg_sl ([.ref hm, .int a0, .int a1])).length) Slot.unset).toArray = ls at hl ⊢
  have hl : lv_has ls 4 [(0, .ref hm), (1, .int a0), (2, .int a1)] := hl
  unfold f_X5_accruedOn at hf
  refine lv_aload_n hx hb dX5_accruedOn_0 rfl (lv_at hl 0 rfl) ?_
  refine lv_iload_n hx hb dX5_accruedOn_1 rfl (lv_at hl 1 rfl) ?_
  obtain ⟨v1, hv1, hf⟩ := ob hf
  refine cSz (W.runV (As := [.int a0]) (rest := []) ⟨hx, hb, hml, hown, hts⟩ (m_X5_isThere l D cI cJ cO hm mh mo my mp M mc mhol mof mdy mpd a0 v1 hv1) (cwV 1 hts gX5_accruedOn_X5_isThere rfl rfl rfl (by decide +kernel) ⟨(Nat.le_of_ble_eq_true rfl), (Nat.le_of_ble_eq_true rfl)⟩) ⟨pw_blind, va_recv hK hP (ci := 4) (q0 := 0) rfl rfl, fun U hU hW => ⟨rfl, pw_at hZ va_S.rf hP hK hU hW (Or.inr rfl) [0, 1, 2, 3, 4] rfl⟩⟩ rfl rfl hl.1 rfl (lv_room (Nat.le_of_ble_eq_true rfl)) dX5_accruedOn_2 ⟨(Nat.le_of_ble_eq_true rfl), (Nat.le_of_ble_eq_true rfl)⟩) (fun zv1 => ?_)
  refine lv_if_eq (tgt := 28) hx hb dX5_accruedOn_5 (by decide) (fun c2 => ?_) (fun c2 => ?_)
  · have hf := it hf c2
    refine lv_iconst (v := 0) hx hb dX5_accruedOn_28 (by decide) ?_
    exact W.iret hx hb hr (fun t ht _ => ⟨_, rfl, Option.some.inj hf, ht⟩) (fun q hq => absurd hq List.not_mem_nil) dX5_accruedOn_29
  · have hf := ie hf c2
    refine lv_iload_n hx hb dX5_accruedOn_8 rfl (lv_at hl 2 rfl) ?_
    refine lv_aload_n hx hb dX5_accruedOn_9 rfl (lv_at hl 0 rfl) ?_
    refine lv_iload_n hx hb dX5_accruedOn_10 rfl (lv_at hl 1 rfl) ?_
    refine lv_iconst (v := 0) hx hb dX5_accruedOn_11 (by decide) ?_
    obtain ⟨v3, hv3, hf⟩ := ob hf
    refine cSi (W.runV (As := [.int a0, .int 0]) (rest := [.int a1]) ⟨hx, hb, hml, hown, hts⟩ (m_X5_own l D cI cJ cO hm mh mo my mp M mc mhol mof mdy mpd a0 0 v3 hv3) (cwV 2 hts gX5_accruedOn_X5_own rfl rfl rfl (by decide +kernel) ⟨(Nat.le_of_ble_eq_true rfl), (Nat.le_of_ble_eq_true rfl)⟩) ⟨pw_blind, va_recv hK hP (ci := 4) (q0 := 0) rfl rfl, fun U hU hW => ⟨rfl, pw_at hZ va_S.rf hP hK hU hW (Or.inr rfl) [0, 1, 2, 3, 4] rfl⟩⟩ rfl rfl hl.1 rfl (lv_room (Nat.le_of_ble_eq_true rfl)) dX5_accruedOn_12 ⟨(Nat.le_of_ble_eq_true rfl), (Nat.le_of_ble_eq_true rfl)⟩) ?_
    refine lv_icmp_lt (tgt := 28) hx hb dX5_accruedOn_15 (by decide) (fun c4 => ?_) (fun c4 => ?_)
    · have hf := it hf c4
      refine lv_iconst (v := 0) hx hb dX5_accruedOn_28 (by decide) ?_
      exact W.iret hx hb hr (fun t ht _ => ⟨_, rfl, Option.some.inj hf, ht⟩) (fun q hq => absurd hq List.not_mem_nil) dX5_accruedOn_29
    · have hf := ie hf c4
      refine lv_iload_n hx hb dX5_accruedOn_18 rfl (lv_at hl 2 rfl) ?_
      refine lv_aload_n hx hb dX5_accruedOn_19 rfl (lv_at hl 0 rfl) ?_
      refine lv_iload_n hx hb dX5_accruedOn_20 rfl (lv_at hl 1 rfl) ?_
      refine lv_iconst (v := 1) hx hb dX5_accruedOn_21 (by decide) ?_
      obtain ⟨v5, hv5, hf⟩ := ob hf
      refine cSi (W.runV (As := [.int a0, .int 1]) (rest := [.int a1]) ⟨hx, hb, hml, hown, hts⟩ (m_X5_own l D cI cJ cO hm mh mo my mp M mc mhol mof mdy mpd a0 1 v5 hv5) (cwV 2 hts gX5_accruedOn_X5_own rfl rfl rfl (by decide +kernel) ⟨(Nat.le_of_ble_eq_true rfl), (Nat.le_of_ble_eq_true rfl)⟩) ⟨pw_blind, va_recv hK hP (ci := 4) (q0 := 0) rfl rfl, fun U hU hW => ⟨rfl, pw_at hZ va_S.rf hP hK hU hW (Or.inr rfl) [0, 1, 2, 3, 4] rfl⟩⟩ rfl rfl hl.1 rfl (lv_room (Nat.le_of_ble_eq_true rfl)) dX5_accruedOn_22 ⟨(Nat.le_of_ble_eq_true rfl), (Nat.le_of_ble_eq_true rfl)⟩) ?_
      refine lv_icmp_lt (tgt := 30) hx hb dX5_accruedOn_25 (by decide) (fun c6 => ?_) (fun c6 => ?_)
      · have hf := it hf c6
        refine lv_aload_n hx hb dX5_accruedOn_30 rfl (lv_at hl 0 rfl) ?_
        refine lv_iload_n hx hb dX5_accruedOn_31 rfl (lv_at hl 1 rfl) ?_
        refine lv_iload_n hx hb dX5_accruedOn_32 rfl (lv_at hl 2 rfl) ?_
        obtain ⟨v7, hv7, hf⟩ := ob hf
        refine cSi (W.runV (As := [.int a0, .int a1]) (rest := []) ⟨hx, hb, hml, hown, hts⟩ (m_X5_behind l D cI cJ cO hm mh mo my mp M mc mhol mof mdy mpd a0 a1 N v7 hv7) (cwV 2 hts gX5_accruedOn_X5_behind rfl rfl rfl (by decide +kernel) ⟨(Nat.le_of_ble_eq_true rfl), (Nat.le_of_ble_eq_true rfl)⟩) ⟨pw_blind, va_recv hK hP (ci := 4) (q0 := 0) rfl rfl, fun U hU hW => ⟨rfl, pw_at hZ va_S.rf hP hK hU hW (Or.inr rfl) [0, 1, 2, 3, 4] rfl⟩⟩ rfl rfl hl.1 rfl (lv_room (Nat.le_of_ble_eq_true rfl)) dX5_accruedOn_33 ⟨(Nat.le_of_ble_eq_true rfl), (Nat.le_of_ble_eq_true rfl)⟩) ?_
        refine lv_istore_n (lv' := [(3, .int v7), (0, .ref hm), (1, .int a0), (2, .int a1)]) hx hb dX5_accruedOn_36 rfl hl (by decide) rfl (fun ls hl => ?_)
        refine lv_aload_n hx hb dX5_accruedOn_37 rfl (lv_at hl 1 rfl) ?_
        refine lv_iload_n hx hb dX5_accruedOn_38 rfl (lv_at hl 2 rfl) ?_
        refine lv_bipush (v := 10) hx hb dX5_accruedOn_39 (by decide) ?_
        refine lv_aload_n hx hb dX5_accruedOn_41 rfl (lv_at hl 1 rfl) ?_
        refine lv_iload_n hx hb dX5_accruedOn_42 rfl (lv_at hl 2 rfl) ?_
        refine lv_iconst (v := 5) hx hb dX5_accruedOn_43 (by decide) ?_
        obtain ⟨v8, hv8, hf⟩ := ob hf
        refine cSi (W.runV (As := [.int a0, .int 5]) (rest := [.int 10, .int a0, .ref hm]) ⟨hx, hb, hml, hown, hts⟩ (m_X5_own l D cI cJ cO hm mh mo my mp M mc mhol mof mdy mpd a0 5 v8 hv8) (cwV 2 hts gX5_accruedOn_X5_own rfl rfl rfl (by decide +kernel) ⟨(Nat.le_of_ble_eq_true rfl), (Nat.le_of_ble_eq_true rfl)⟩) ⟨pw_blind, va_recv hK hP (ci := 4) (q0 := 0) rfl rfl, fun U hU hW => ⟨rfl, pw_at hZ va_S.rf hP hK hU hW (Or.inr rfl) [0, 1, 2, 3, 4] rfl⟩⟩ rfl rfl hl.1 rfl (lv_room (Nat.le_of_ble_eq_true rfl)) dX5_accruedOn_44 ⟨(Nat.le_of_ble_eq_true rfl), (Nat.le_of_ble_eq_true rfl)⟩) ?_
        refine lv_imul hx hb dX5_accruedOn_47 ?_
        refine lv_aload_n hx hb dX5_accruedOn_48 rfl (lv_at hl 1 rfl) ?_
        refine lv_iload_n hx hb dX5_accruedOn_49 rfl (lv_at hl 2 rfl) ?_
        refine lv_iload_n hx hb dX5_accruedOn_50 rfl (lv_at hl 0 rfl) ?_
        obtain ⟨v9, hv9, hf⟩ := ob hf
        refine cSi (W.runV (As := [.int a0, .int v7]) (rest := [.int (10 * v8), .int a0, .ref hm]) ⟨hx, hb, hml, hown, hts⟩ (m_X5_beginning l D cI cJ cO hm mh mo my mp M mc mhol mof mdy mpd a0 v7 v9 hv9) (cwV 2 hts gX5_accruedOn_X5_beginning rfl rfl rfl (by decide +kernel) ⟨(Nat.le_of_ble_eq_true rfl), (Nat.le_of_ble_eq_true rfl)⟩) ⟨pw_blind, va_recv hK hP (ci := 4) (q0 := 0) rfl rfl, fun U hU hW => ⟨rfl, pw_at hZ va_S.rf hP hK hU hW (Or.inr rfl) [0, 1, 2, 3, 4] rfl⟩⟩ rfl rfl hl.1 rfl (lv_room (Nat.le_of_ble_eq_true rfl)) dX5_accruedOn_51 ⟨(Nat.le_of_ble_eq_true rfl), (Nat.le_of_ble_eq_true rfl)⟩) ?_
        refine lv_iload_n hx hb dX5_accruedOn_54 rfl (lv_at hl 3 rfl) ?_
        refine lv_iload_n hx hb dX5_accruedOn_55 rfl (lv_at hl 0 rfl) ?_
        obtain ⟨v10, hv10, hf⟩ := ob hf
        refine cSi (W.runV (As := [.int a0, .int (10 * v8), .int v9, .int a1, .int v7]) (rest := []) ⟨hx, hb, hml, hown, hts⟩ (m_X5_interest l D cI cJ cO hm mh mo my mp M mc mhol mof mdy mpd a0 (10 * v8) v9 a1 v7 N v10 hv10) (cwV 5 hts gX5_accruedOn_X5_interest rfl rfl rfl (by decide +kernel) ⟨(Nat.le_of_ble_eq_true rfl), (Nat.le_of_ble_eq_true rfl)⟩) ⟨pw_blind, va_recv hK hP (ci := 4) (q0 := 0) rfl rfl, fun U hU hW => ⟨rfl, pw_at hZ va_S.rf hP hK hU hW (Or.inr rfl) [0, 1, 2, 3, 4] rfl⟩⟩ rfl rfl hl.1 rfl (lv_room (Nat.le_of_ble_eq_true rfl)) dX5_accruedOn_56 ⟨(Nat.le_of_ble_eq_true rfl), (Nat.le_of_ble_eq_true rfl)⟩) ?_
        exact W.iret hx hb hr (fun t ht _ => ⟨_, rfl, Option.some.inj hf, ht⟩) (fun q hq => absurd hq List.not_mem_nil) dX5_accruedOn_59
      · have hf := ie hf c6
        refine lv_iconst (v := 0) hx hb dX5_accruedOn_28 (by decide) ?_
        exact W.iret hx hb hr (fun t ht _ => ⟨_, rfl, Option.some.inj hf, ht⟩) (fun q hq => absurd hq List.not_mem_nil) dX5_accruedOn_29
set_option maxHeartbeats 4000000 in
set_option maxRecDepth 100000 in
theorem m_X5_worthOn (l : Launch) (D : va_G) (cI cJ cO : ClassId) (hm : Nat) (mh : Nat) (mo : Nat) (my : Nat) (mp : Nat) (M : Nat → Int32) (mc : Int64) (mhol : Nat → Int32) (mof : Nat → Int32) (mdy : Nat → Int32) (mpd : Nat → Int64) (a0 : Int32) (a1 : Int32) (a2 : Int32) (a3 : Int32) (N : Nat) (r : Int64) (hf : f_X5_worthOn N mof mdy a0 a1 a2 a3 = some r) : Met l yX5_worthOn wsX5_worthOn ({ frames := 4, cells := 0, slots := 0, locals := 95 }) (va_Pc [.ref hm, .int a0, .int a1, .int a2, .int a3] (pw D (ty3 cI cJ cO) none [eM hm mh mo my mp M mc, eH cI mh mhol, eO cI mo mof, eY cI my mdy, eP cJ mp mpd])) (QSl r) 0 0 (fun _ => False) := by
  refine Met.ofW (cc := cX5_worthOn) (maxL := 15) (ret := (some .long)) (by decide) rfl ?_
  intro p e s m args below meth c s₁ Bd hml hv
  obtain ⟨rfl, hZ, hP, hK⟩ := hv
  have hx := Bd.exec
  have hb := Bd.bytes
  have hr := Bd.returns
  have hts := atoms_spec (ws := wsX5_worthOn) Bd.pre
  have hown : s.vm.findClass RX5 = some m.cls := findClass_of_methodNamed Bd.named
  have hlocks := Bd.notSynchronized
  have hl := lv_entry ([.ref hm, .int a0, .int a1, .int a2, .int a3]) (n := 15) (Nat.le_of_ble_eq_true rfl)
  rw [lg_entry_eq]
  generalize (lg_sl ([.ref hm, .int a0, .int a1, .int a2, .int a3]) ++ List.replicate (15 - (lg_sl ([.ref hm, .int a0, .int a1, .int a2, .int a3])).length) Slot.unset).toArray = ls at hl ⊢
  have hl : lv_has ls 15 [(0, .ref hm), (1, .int a0), (2, .int a1), (3, .int a2), (4, .int a3)] := hl
  unfold f_X5_worthOn at hf
  refine lv_lconst (v := 0) hx hb dX5_worthOn_0 (by decide) ?_
  refine lv_lstore (lv' := [(5, .long 0), (0, .ref hm), (1, .int a0), (2, .int a1), (3, .int a2), (4, .int a3)]) hx hb dX5_worthOn_1 hl (by decide) rfl (fun ls hl => ?_)
  refine lv_lconst (v := 0) hx hb dX5_worthOn_3 (by decide) ?_
  refine lv_lstore (lv' := [(7, .long 0), (5, .long 0), (0, .ref hm), (1, .int a0), (2, .int a1), (3, .int a2), (4, .int a3)]) hx hb dX5_worthOn_4 hl (by decide) rfl (fun ls hl => ?_)
  refine lv_iload_n hx hb dX5_worthOn_6 rfl (lv_at hl 5 rfl) ?_
  refine lv_istore (lv' := [(9, .int a2), (7, .long 0), (5, .long 0), (0, .ref hm), (1, .int a0), (2, .int a1), (3, .int a2), (4, .int a3)]) hx hb dX5_worthOn_7 hl (by decide) rfl (fun ls hl => ?_)
  refine lv_aload_n hx hb dX5_worthOn_9 rfl (lv_at hl 3 rfl) ?_
  refine lv_iload_n hx hb dX5_worthOn_10 rfl (lv_at hl 4 rfl) ?_
  refine lv_iload_n hx hb dX5_worthOn_11 rfl (lv_at hl 5 rfl) ?_
  obtain ⟨v1, hv1, hf⟩ := ob hf
  refine cSi (W.runV (As := [.int a0, .int a1]) (rest := []) ⟨hx, hb, hml, hown, hts⟩ (m_X5_behind l D cI cJ cO hm mh mo my mp M mc mhol mof mdy mpd a0 a1 N v1 hv1) (cwV 2 hts gX5_worthOn_X5_behind rfl rfl rfl (by decide +kernel) ⟨(Nat.le_of_ble_eq_true rfl), (Nat.le_of_ble_eq_true rfl)⟩) ⟨pw_blind, va_recv hK hP (ci := 4) (q0 := 0) rfl rfl, fun U hU hW => ⟨rfl, pw_at hZ va_S.rf hP hK hU hW (Or.inr rfl) [0, 1, 2, 3, 4] rfl⟩⟩ rfl rfl hl.1 rfl (lv_room (Nat.le_of_ble_eq_true rfl)) dX5_worthOn_12 ⟨(Nat.le_of_ble_eq_true rfl), (Nat.le_of_ble_eq_true rfl)⟩) ?_
  refine lv_istore (lv' := [(10, .int v1), (9, .int a2), (7, .long 0), (5, .long 0), (0, .ref hm), (1, .int a0), (2, .int a1), (3, .int a2), (4, .int a3)]) hx hb dX5_worthOn_15 hl (by decide) rfl (fun ls hl => ?_)
  refine lv_ldc2 hx hb hown (hts (.constantLong RX5 132 (10000)) (by decide +kernel)) dX5_worthOn_17 ?_
  refine lv_aload_n hx hb dX5_worthOn_20 rfl (lv_at hl 4 rfl) ?_
  refine lv_iload_n hx hb dX5_worthOn_21 rfl (lv_at hl 5 rfl) ?_
  refine lv_iconst (v := 3) hx hb dX5_worthOn_22 (by decide) ?_
  obtain ⟨v2, hv2, hf⟩ := ob hf
  refine cSi (W.runV (As := [.int a0, .int 3]) (rest := [.long 10000]) ⟨hx, hb, hml, hown, hts⟩ (m_X5_own l D cI cJ cO hm mh mo my mp M mc mhol mof mdy mpd a0 3 v2 hv2) (cwV 2 hts gX5_worthOn_X5_own rfl rfl rfl (by decide +kernel) ⟨(Nat.le_of_ble_eq_true rfl), (Nat.le_of_ble_eq_true rfl)⟩) ⟨pw_blind, va_recv hK hP (ci := 4) (q0 := 0) rfl rfl, fun U hU hW => ⟨rfl, pw_at hZ va_S.rf hP hK hU hW (Or.inr rfl) [0, 1, 2, 3, 4] rfl⟩⟩ rfl rfl hl.1 rfl (lv_room (Nat.le_of_ble_eq_true rfl)) dX5_worthOn_23 ⟨(Nat.le_of_ble_eq_true rfl), (Nat.le_of_ble_eq_true rfl)⟩) ?_
  refine lv_i2l hx hb dX5_worthOn_26 rfl ?_
  refine lv_lmul hx hb dX5_worthOn_27 ?_
  refine lv_topl (fun x3 ex3 => ?_)
  have hf := bd_s hf ex3
  refine lv_lstore (lv' := [(11, .long x3), (10, .int v1), (9, .int a2), (7, .long 0), (5, .long 0), (0, .ref hm), (1, .int a0), (2, .int a1), (3, .int a2), (4, .int a3)]) hx hb dX5_worthOn_28 hl (by decide) rfl (fun ls hl => ?_)
  refine lv_iload hx hb dX5_worthOn_30 (lv_at hl 1 rfl) ?_
  refine lv_istore (lv' := [(13, .int v1), (11, .long x3), (10, .int v1), (9, .int a2), (7, .long 0), (5, .long 0), (0, .ref hm), (1, .int a0), (2, .int a1), (3, .int a2), (4, .int a3)]) hx hb dX5_worthOn_32 hl (by decide) rfl (fun ls hl => ?_)
  have LP34 : ∀ (n8 : Nat) (x4 : Int64) (x5 : Int64) (x6 : Int32) (x7 : Int32) (ls : Array Slot), lv_has ls 15 [(0, .ref hm), (1, .int a0), (2, .int a1), (4, .int a3), (5, .long x4), (7, .long x5), (9, .int x6), (10, .int v1), (11, .long x3), (13, .int x7)] → f_X5_worthOn_L34 mof a0 N mdy v1 a3 a1 x3 n8 x4 x5 x6 x7 = some r → W p l e (headSpec wsX5_worthOn ({ frames := 4, cells := 0, slots := 0, locals := 95 })).room s m ([.ref hm, .int a0, .int a1, .int a2, .int a3] : List Value).toArray below meth c s.heap [] 0 0 (MQ below (QSl r) ([.ref hm, .int a0, .int a1, .int a2, .int a3] : List Value).toArray s 0 0 (fun _ => False)) (F0 m 34 ls []) := by
    intro n8
    induction n8 with
    | zero => intro x4 x5 x6 x7 ls hl hf; exact (no_s hf).elim
    | succ n8 ih8 =>
      intro x4 x5 x6 x7 ls hl hf
      rw [f_X5_worthOn_L34] at hf
      refine lv_iload hx hb dX5_worthOn_34 (lv_at hl 9 rfl) ?_
      refine lv_aload_n hx hb dX5_worthOn_36 rfl (lv_at hl 0 rfl) ?_
      refine lv_iload_n hx hb dX5_worthOn_37 rfl (lv_at hl 1 rfl) ?_
      refine lv_bipush (v := 6) hx hb dX5_worthOn_38 (by decide) ?_
      obtain ⟨v9, hv9, hf⟩ := ob hf
      refine cSi (W.runV (As := [.int a0, .int 6]) (rest := [.int x7]) ⟨hx, hb, hml, hown, hts⟩ (m_X5_own l D cI cJ cO hm mh mo my mp M mc mhol mof mdy mpd a0 6 v9 hv9) (cwV 2 hts gX5_worthOn_X5_own rfl rfl rfl (by decide +kernel) ⟨(Nat.le_of_ble_eq_true rfl), (Nat.le_of_ble_eq_true rfl)⟩) ⟨pw_blind, va_recv hK hP (ci := 4) (q0 := 0) rfl rfl, fun U hU hW => ⟨rfl, pw_at hZ va_S.rf hP hK hU hW (Or.inr rfl) [0, 1, 2, 3, 4] rfl⟩⟩ rfl rfl hl.1 rfl (lv_room (Nat.le_of_ble_eq_true rfl)) dX5_worthOn_40 ⟨(Nat.le_of_ble_eq_true rfl), (Nat.le_of_ble_eq_true rfl)⟩) ?_
      refine lv_icmp_ge (tgt := 187) hx hb dX5_worthOn_43 (by decide) (fun c10 => ?_) (fun c10 => ?_)
      · have hf := it hf c10
        refine lv_lload hx hb dX5_worthOn_187 (lv_at hl 4 rfl) ?_
        exact W.lret hx hb hr (fun t ht _ => ⟨_, rfl, Option.some.inj hf, ht⟩) (fun q hq => absurd hq List.not_mem_nil) dX5_worthOn_189
      · have hf := ie hf c10
        refine lv_iload hx hb dX5_worthOn_46 (lv_at hl 9 rfl) ?_
        refine lv_iload hx hb dX5_worthOn_48 (lv_at hl 7 rfl) ?_
        obtain ⟨K11, hK11, hf⟩ := jn_s hf
        have JK11 : ∀ (x12 : Int64) (ls : Array Slot), lv_has ls 15 [(0, .ref hm), (1, .int a0), (2, .int a1), (4, .int a3), (5, .long x4), (9, .int x6), (10, .int v1), (11, .long x3), (13, .int x7)] → K11 x12 = some r → W p l e (headSpec wsX5_worthOn ({ frames := 4, cells := 0, slots := 0, locals := 95 })).room s m ([.ref hm, .int a0, .int a1, .int a2, .int a3] : List Value).toArray below meth c s.heap [] 0 0 (MQ below (QSl r) ([.ref hm, .int a0, .int a1, .int a2, .int a3] : List Value).toArray s 0 0 (fun _ => False)) (F0 m 90 ls [.long x12]) := by
          intro x12 ls hl hf
          rw [hK11] at hf
          refine lv_lstore (lv' := [(7, .long x12), (0, .ref hm), (1, .int a0), (2, .int a1), (4, .int a3), (5, .long x4), (9, .int x6), (10, .int v1), (11, .long x3), (13, .int x7)]) hx hb dX5_worthOn_90 hl (by decide) rfl (fun ls hl => ?_)
          refine lv_iload hx hb dX5_worthOn_92 (lv_at hl 9 rfl) ?_
          refine lv_aload_n hx hb dX5_worthOn_94 rfl (lv_at hl 1 rfl) ?_
          refine lv_iload_n hx hb dX5_worthOn_95 rfl (lv_at hl 2 rfl) ?_
          refine lv_bipush (v := 6) hx hb dX5_worthOn_96 (by decide) ?_
          obtain ⟨v13, hv13, hf⟩ := ob hf
          refine cSi (W.runV (As := [.int a0, .int 6]) (rest := [.int x7]) ⟨hx, hb, hml, hown, hts⟩ (m_X5_own l D cI cJ cO hm mh mo my mp M mc mhol mof mdy mpd a0 6 v13 hv13) (cwV 2 hts gX5_worthOn_X5_own rfl rfl rfl (by decide +kernel) ⟨(Nat.le_of_ble_eq_true rfl), (Nat.le_of_ble_eq_true rfl)⟩) ⟨pw_blind, va_recv hK hP (ci := 4) (q0 := 0) rfl rfl, fun U hU hW => ⟨rfl, pw_at hZ va_S.rf hP hK hU hW (Or.inr rfl) [0, 1, 2, 3, 4] rfl⟩⟩ rfl rfl hl.1 rfl (lv_room (Nat.le_of_ble_eq_true rfl)) dX5_worthOn_98 ⟨(Nat.le_of_ble_eq_true rfl), (Nat.le_of_ble_eq_true rfl)⟩) ?_
          refine lv_iconst (v := 1) hx hb dX5_worthOn_101 (by decide) ?_
          refine lv_isub hx hb dX5_worthOn_102 ?_
          obtain ⟨K14, hK14, hf⟩ := jn_s hf
          have JK14 : ∀ (x15 : Int32) (ls : Array Slot), lv_has ls 15 [(0, .ref hm), (1, .int a0), (2, .int a1), (4, .int a3), (5, .long x4), (7, .long x12), (9, .int x6), (10, .int v1), (11, .long x3), (13, .int x7)] → K14 x15 = some r → W p l e (headSpec wsX5_worthOn ({ frames := 4, cells := 0, slots := 0, locals := 95 })).room s m ([.ref hm, .int a0, .int a1, .int a2, .int a3] : List Value).toArray below meth c s.heap [] 0 0 (MQ below (QSl r) ([.ref hm, .int a0, .int a1, .int a2, .int a3] : List Value).toArray s 0 0 (fun _ => False)) (F0 m 137 ls [.int x15]) := by
            intro x15 ls hl hf
            rw [hK14] at hf
            refine lv_istore (lv' := [(14, .int x15), (0, .ref hm), (1, .int a0), (2, .int a1), (4, .int a3), (5, .long x4), (7, .long x12), (9, .int x6), (10, .int v1), (11, .long x3), (13, .int x7)]) hx hb dX5_worthOn_137 hl (by decide) rfl (fun ls hl => ?_)
            refine lv_lload hx hb dX5_worthOn_139 (lv_at hl 5 rfl) ?_
            refine lv_aload_n hx hb dX5_worthOn_141 rfl (lv_at hl 1 rfl) ?_
            refine lv_iload_n hx hb dX5_worthOn_142 rfl (lv_at hl 2 rfl) ?_
            refine lv_iload hx hb dX5_worthOn_143 (lv_at hl 10 rfl) ?_
            refine lv_ldc2 hx hb hown (hts (.constantLong RX5 159 (10)) (by decide +kernel)) dX5_worthOn_145 ?_
            refine lv_iload hx hb dX5_worthOn_148 (lv_at hl 7 rfl) ?_
            refine lv_i2l hx hb dX5_worthOn_150 rfl ?_
            refine lv_lmul hx hb dX5_worthOn_151 ?_
            obtain ⟨v16, hv16, hf⟩ := ob hf
            refine cSi (W.runV (As := [.int a0, .int x7, .long (10 * x6.toInt64)]) (rest := [.long x4]) ⟨hx, hb, hml, hown, hts⟩ (m_X5_coupon l D cI cJ cO hm mh mo my mp M mc mhol mof mdy mpd a0 x7 (10 * x6.toInt64) N v16 hv16) (cwV 3 hts gX5_worthOn_X5_coupon rfl rfl rfl (by decide +kernel) ⟨(Nat.le_of_ble_eq_true rfl), (Nat.le_of_ble_eq_true rfl)⟩) ⟨pw_blind, va_recv hK hP (ci := 4) (q0 := 0) rfl rfl, fun U hU hW => ⟨rfl, pw_at hZ va_S.rf hP hK hU hW (Or.inr rfl) [0, 1, 2, 3, 4] rfl⟩⟩ rfl rfl hl.1 rfl (lv_room (Nat.le_of_ble_eq_true rfl)) dX5_worthOn_152 ⟨(Nat.le_of_ble_eq_true rfl), (Nat.le_of_ble_eq_true rfl)⟩) ?_
            refine lv_i2l hx hb dX5_worthOn_155 rfl ?_
            refine lv_ldc2 hx hb hown (hts (.constantLong RX5 159 (10)) (by decide +kernel)) dX5_worthOn_156 ?_
            refine lv_iload hx hb dX5_worthOn_159 (lv_at hl 0 rfl) ?_
            refine lv_i2l hx hb dX5_worthOn_161 rfl ?_
            refine lv_lmul hx hb dX5_worthOn_162 ?_
            refine lv_ladd hx hb dX5_worthOn_163 ?_
            refine lv_lload hx hb dX5_worthOn_164 (lv_at hl 6 rfl) ?_
            refine lv_lmul hx hb dX5_worthOn_166 ?_
            refine lv_ldc2 hx hb hown (hts (.constantLong RX5 161 (1000000000)) (by decide +kernel)) dX5_worthOn_167 ?_
            refine lv_ldiv hx hb dX5_worthOn_170 (by decide) ?_
            refine lv_ladd hx hb dX5_worthOn_171 ?_
            refine lv_topl (fun x17 ex17 => ?_)
            have hf := bd_s hf ex17
            refine lv_lstore (lv' := [(5, .long x17), (14, .int x15), (0, .ref hm), (1, .int a0), (2, .int a1), (4, .int a3), (7, .long x12), (9, .int x6), (10, .int v1), (11, .long x3), (13, .int x7)]) hx hb dX5_worthOn_172 hl (by decide) rfl (fun ls hl => ?_)
            refine lv_iload hx hb dX5_worthOn_174 (lv_at hl 7 rfl) ?_
            refine lv_iload hx hb dX5_worthOn_176 (lv_at hl 1 rfl) ?_
            refine lv_isub hx hb dX5_worthOn_178 ?_
            refine lv_topi (fun x18 ex18 => ?_)
            have hf := bd_s hf ex18
            refine lv_istore (lv' := [(9, .int x18), (5, .long x17), (14, .int x15), (0, .ref hm), (1, .int a0), (2, .int a1), (4, .int a3), (7, .long x12), (10, .int v1), (11, .long x3), (13, .int x7)]) hx hb dX5_worthOn_179 hl (by decide) rfl (fun ls hl => ?_)
            obtain ⟨x19, ex19⟩ : ∃ y : Int32, y = x7 + 1 := ⟨_, rfl⟩
            have hf := bd_s hf ex19
            refine lv_iinc (v := x19) (lv' := [(13, .int x19), (9, .int x18), (5, .long x17), (14, .int x15), (0, .ref hm), (1, .int a0), (2, .int a1), (4, .int a3), (7, .long x12), (10, .int v1), (11, .long x3)]) hx hb dX5_worthOn_181 hl (k := 10) rfl (by rw [ex19]; rfl) (by decide) rfl (fun ls hl => ?_)
            refine lv_goto (tgt := 34) hx hb dX5_worthOn_184 (by decide) ?_
            exact ih8 x17 x12 x18 x19 ls (lv_sub hl [4, 5, 6, 7, 2, 8, 1, 9, 10, 0] rfl) hf
          refine lv_icmp_ne (tgt := 111) hx hb dX5_worthOn_103 (by decide) (fun c20 => ?_) (fun c20 => ?_)
          · have hf := ie hf c20
            refine lv_aload_n hx hb dX5_worthOn_111 rfl (lv_at hl 1 rfl) ?_
            refine lv_iload_n hx hb dX5_worthOn_112 rfl (lv_at hl 2 rfl) ?_
            refine lv_iload hx hb dX5_worthOn_113 (lv_at hl 9 rfl) ?_
            obtain ⟨v21, hv21, hf⟩ := ob hf
            refine cSz (W.runV (As := [.int a0, .int x7]) (rest := []) ⟨hx, hb, hml, hown, hts⟩ (m_X5_isSunk l D cI cJ cO hm mh mo my mp M mc mhol mof mdy mpd a0 x7 v21 hv21) (cwV 2 hts gX5_worthOn_X5_isSunk rfl rfl rfl (by decide +kernel) ⟨(Nat.le_of_ble_eq_true rfl), (Nat.le_of_ble_eq_true rfl)⟩) ⟨pw_blind, va_recv hK hP (ci := 4) (q0 := 0) rfl rfl, fun U hU hW => ⟨rfl, pw_at hZ va_S.rf hP hK hU hW (Or.inr rfl) [0, 1, 2, 3, 4] rfl⟩⟩ rfl rfl hl.1 rfl (lv_room (Nat.le_of_ble_eq_true rfl)) dX5_worthOn_115 ⟨(Nat.le_of_ble_eq_true rfl), (Nat.le_of_ble_eq_true rfl)⟩) (fun zv21 => ?_)
            refine lv_if_eq (tgt := 136) hx hb dX5_worthOn_118 (by decide) (fun c22 => ?_) (fun c22 => ?_)
            · have hf := it hf c22
              refine lv_iconst (v := 0) hx hb dX5_worthOn_136 (by decide) ?_
              exact JK14 0 ls (lv_sub hl [1, 2, 3, 4, 5, 0, 6, 7, 8, 9] rfl) hf
            · have hf := ie hf c22
              refine lv_iload hx hb dX5_worthOn_121 (lv_at hl 6 rfl) ?_
              refine lv_aload_n hx hb dX5_worthOn_123 rfl (lv_at hl 1 rfl) ?_
              refine lv_iload_n hx hb dX5_worthOn_124 rfl (lv_at hl 2 rfl) ?_
              refine lv_bipush (v := 11) hx hb dX5_worthOn_125 (by decide) ?_
              obtain ⟨v23, hv23, hf⟩ := ob hf
              refine cSi (W.runV (As := [.int a0, .int 11]) (rest := [.int x6]) ⟨hx, hb, hml, hown, hts⟩ (m_X5_own l D cI cJ cO hm mh mo my mp M mc mhol mof mdy mpd a0 11 v23 hv23) (cwV 2 hts gX5_worthOn_X5_own rfl rfl rfl (by decide +kernel) ⟨(Nat.le_of_ble_eq_true rfl), (Nat.le_of_ble_eq_true rfl)⟩) ⟨pw_blind, va_recv hK hP (ci := 4) (q0 := 0) rfl rfl, fun U hU hW => ⟨rfl, pw_at hZ va_S.rf hP hK hU hW (Or.inr rfl) [0, 1, 2, 3, 4] rfl⟩⟩ rfl rfl hl.1 rfl (lv_room (Nat.le_of_ble_eq_true rfl)) dX5_worthOn_127 ⟨(Nat.le_of_ble_eq_true rfl), (Nat.le_of_ble_eq_true rfl)⟩) ?_
              refine va_mmin hx hb (hml.trans hl.1.symm) hown (hts (.methodLink RX5 80 Lib.Math.min.name) (by decide +kernel)) (hts (.static Lib.Math.min.name) (by decide +kernel)) (hts (.initialized "java/lang/Math") (by decide +kernel)) (hts (.code Lib.Math.min.name Lib.Math.min.code 2 (some .int)) (by decide +kernel)) (Nat.le_of_ble_eq_true rfl) (Nat.le_of_ble_eq_true rfl) (Nat.le_of_ble_eq_true rfl) (Nat.le_of_ble_eq_true rfl) dX5_worthOn_130 ?_
              refine lv_topi (fun x24 ex24 => ?_)
              have hf := bd_s hf ex24
              refine lv_goto (tgt := 137) hx hb dX5_worthOn_133 (by decide) ?_
              exact JK14 x24 ls (lv_sub hl [1, 2, 3, 4, 5, 0, 6, 7, 8, 9] rfl) hf
          · have hf := it hf c20
            refine lv_iload hx hb dX5_worthOn_106 (lv_at hl 6 rfl) ?_
            refine lv_goto (tgt := 137) hx hb dX5_worthOn_108 (by decide) ?_
            exact JK14 x6 ls (lv_sub hl [1, 2, 3, 4, 5, 0, 6, 7, 8, 9] rfl) hf
        refine lv_icmp_ne (tgt := 78) hx hb dX5_worthOn_50 (by decide) (fun c25 => ?_) (fun c25 => ?_)
        · have hf := ie hf c25
          refine lv_lload hx hb dX5_worthOn_78 (lv_at hl 5 rfl) ?_
          refine lv_lload hx hb dX5_worthOn_80 (lv_at hl 8 rfl) ?_
          refine lv_lmul hx hb dX5_worthOn_82 ?_
          refine lv_lload hx hb dX5_worthOn_83 (lv_at hl 8 rfl) ?_
          refine lv_iload hx hb dX5_worthOn_85 (lv_at hl 3 rfl) ?_
          refine lv_i2l hx hb dX5_worthOn_87 rfl ?_
          refine lv_ladd hx hb dX5_worthOn_88 ?_
          refine lv_topl (fun x26 ex26 => ?_)
          have hf := bd_s hf ex26
          obtain ⟨c27, hf⟩ := gd_s hf
          refine lv_ldiv hx hb dX5_worthOn_89 c27 ?_
          exact JK11 ((x5 * x3) / x26) ls (lv_sub hl [0, 1, 2, 3, 4, 6, 7, 8, 9] rfl) hf
        · have hf := it hf c25
          refine lv_ldc2 hx hb hown (hts (.constantLong RX5 157 (3650000000000000)) (by decide +kernel)) dX5_worthOn_53 ?_
          refine lv_ldc2 hx hb hown (hts (.constantLong RX5 130 (3650000)) (by decide +kernel)) dX5_worthOn_56 ?_
          refine lv_iload hx hb dX5_worthOn_59 (lv_at hl 3 rfl) ?_
          refine lv_i2l hx hb dX5_worthOn_61 rfl ?_
          refine lv_aload_n hx hb dX5_worthOn_62 rfl (lv_at hl 0 rfl) ?_
          refine lv_iload_n hx hb dX5_worthOn_63 rfl (lv_at hl 1 rfl) ?_
          refine lv_iload hx hb dX5_worthOn_64 (lv_at hl 9 rfl) ?_
          obtain ⟨v28, hv28, hf⟩ := ob hf
          refine cSi (W.runV (As := [.int a0, .int x7]) (rest := [.long a3.toInt64, .long 3650000, .long 3650000000000000]) ⟨hx, hb, hml, hown, hts⟩ (m_X5_couponDay l D cI cJ cO hm mh mo my mp M mc mhol mof mdy mpd a0 x7 v28 hv28) (cwV 2 hts gX5_worthOn_X5_couponDay rfl rfl rfl (by decide +kernel) ⟨(Nat.le_of_ble_eq_true rfl), (Nat.le_of_ble_eq_true rfl)⟩) ⟨pw_blind, va_recv hK hP (ci := 4) (q0 := 0) rfl rfl, fun U hU hW => ⟨rfl, pw_at hZ va_S.rf hP hK hU hW (Or.inr rfl) [0, 1, 2, 3, 4] rfl⟩⟩ rfl rfl hl.1 rfl (lv_room (Nat.le_of_ble_eq_true rfl)) dX5_worthOn_66 ⟨(Nat.le_of_ble_eq_true rfl), (Nat.le_of_ble_eq_true rfl)⟩) ?_
          refine lv_iload_n hx hb dX5_worthOn_69 rfl (lv_at hl 2 rfl) ?_
          refine lv_isub hx hb dX5_worthOn_70 ?_
          refine lv_i2l hx hb dX5_worthOn_71 rfl ?_
          refine lv_lmul hx hb dX5_worthOn_72 ?_
          refine lv_ladd hx hb dX5_worthOn_73 ?_
          refine lv_topl (fun x29 ex29 => ?_)
          have hf := bd_s hf ex29
          obtain ⟨c30, hf⟩ := gd_s hf
          refine lv_ldiv hx hb dX5_worthOn_74 c30 ?_
          refine lv_goto (tgt := 90) hx hb dX5_worthOn_75 (by decide) ?_
          exact JK11 (3650000000000000 / x29) ls (lv_sub hl [0, 1, 2, 3, 4, 6, 7, 8, 9] rfl) hf
  exact LP34 N 0 0 a2 v1 ls (lv_sub hl [6, 7, 8, 10, 5, 4, 3, 2, 1, 0] rfl) hf
theorem inX5_worthNow_X5 : ∀ w ∈ wsX50, w ∈ wsX5_worthNow := by decide +kernel
set_option maxHeartbeats 4000000 in
set_option maxRecDepth 100000 in
theorem m_X5_worthNow (l : Launch) (D : va_G) (cI cJ cO : ClassId) (hm : Nat) (mh : Nat) (mo : Nat) (my : Nat) (mp : Nat) (M : Nat → Int32) (mc : Int64) (mhol : Nat → Int32) (mof : Nat → Int32) (mdy : Nat → Int32) (mpd : Nat → Int64) (a0 : Int32) (a1 : Int32) (N : Nat) (r : Int64) (hf : f_X5_worthNow N M mof mdy a0 a1 = some r) : Met l yX5_worthNow wsX5_worthNow ({ frames := 5, cells := 0, slots := 0, locals := 129 }) (va_Pc [.ref hm, .int a0, .int a1] (pw D (ty3 cI cJ cO) none [eM hm mh mo my mp M mc, eH cI mh mhol, eO cI mo mof, eY cI my mdy, eP cJ mp mpd])) (QSl r) 0 0 (fun _ => False) := by
  refine Met.ofW (cc := cX5_worthNow) (maxL := 3) (ret := (some .long)) (by decide) rfl ?_
  intro p e s m args below meth c s₁ Bd hml hv
  obtain ⟨rfl, hZ, hP, hK⟩ := hv
  have hx := Bd.exec
  have hb := Bd.bytes
  have hr := Bd.returns
  have hts := atoms_spec (ws := wsX5_worthNow) Bd.pre
  have hown : s.vm.findClass RX5 = some m.cls := findClass_of_methodNamed Bd.named
  have hlocks := Bd.notSynchronized
  have hl := lv_entry ([.ref hm, .int a0, .int a1]) (n := 3) (Nat.le_of_ble_eq_true rfl)
  rw [lg_entry_eq]
  generalize (lg_sl ([.ref hm, .int a0, .int a1]) ++ List.replicate (3 - (lg_sl ([.ref hm, .int a0, .int a1])).length) Slot.unset).toArray = ls at hl ⊢
  have hl : lv_has ls 3 [(0, .ref hm), (1, .int a0), (2, .int a1)] := hl
  unfold f_X5_worthNow at hf
  refine lv_aload_n hx hb dX5_worthNow_0 rfl (lv_at hl 0 rfl) ?_
  refine lv_iload_n hx hb dX5_worthNow_1 rfl (lv_at hl 1 rfl) ?_
  obtain ⟨v1, hv1, hf⟩ := ob hf
  refine cSz (W.runV (As := [.int a0]) (rest := []) ⟨hx, hb, hml, hown, hts⟩ (m_X5_isThere l D cI cJ cO hm mh mo my mp M mc mhol mof mdy mpd a0 v1 hv1) (cwV 1 hts gX5_worthNow_X5_isThere rfl rfl rfl (by decide +kernel) ⟨(Nat.le_of_ble_eq_true rfl), (Nat.le_of_ble_eq_true rfl)⟩) ⟨pw_blind, va_recv hK hP (ci := 4) (q0 := 0) rfl rfl, fun U hU hW => ⟨rfl, pw_at hZ va_S.rf hP hK hU hW (Or.inr rfl) [0, 1, 2, 3, 4] rfl⟩⟩ rfl rfl hl.1 rfl (lv_room (Nat.le_of_ble_eq_true rfl)) dX5_worthNow_2 ⟨(Nat.le_of_ble_eq_true rfl), (Nat.le_of_ble_eq_true rfl)⟩) (fun zv1 => ?_)
  refine lv_if_eq (tgt := 27) hx hb dX5_worthNow_5 (by decide) (fun c2 => ?_) (fun c2 => ?_)
  · have hf := it hf c2
    refine lv_lconst (v := 0) hx hb dX5_worthNow_27 (by decide) ?_
    exact W.lret hx hb hr (fun t ht _ => ⟨_, rfl, Option.some.inj hf, ht⟩) (fun q hq => absurd hq List.not_mem_nil) dX5_worthNow_28
  · have hf := ie hf c2
    refine lv_aload_n hx hb dX5_worthNow_8 rfl (lv_at hl 0 rfl) ?_
    refine lv_iload_n hx hb dX5_worthNow_9 rfl (lv_at hl 1 rfl) ?_
    refine lv_aload_n hx hb dX5_worthNow_10 rfl (lv_at hl 0 rfl) ?_
    refine va_get (D := D) (ci := 4) (v := .int (M 1)) (C := RX5) (T := TX5) (N := 10) hx hb hts inX5_worthNow_X5 hown hK hP 0 rfl rfl 1 (by decide) (hts (.fieldLink RX5 14 "BondDeskModel" "today" "I") (by decide +kernel)) (fun _ h9 => h9) rfl dX5_worthNow_11 ?_
    refine lv_aload_n hx hb dX5_worthNow_14 rfl (lv_at hl 0 rfl) ?_
    refine lv_iload_n hx hb dX5_worthNow_15 rfl (lv_at hl 1 rfl) ?_
    refine lv_iconst (v := 5) hx hb dX5_worthNow_16 (by decide) ?_
    obtain ⟨v3, hv3, hf⟩ := ob hf
    refine cSi (W.runV (As := [.int a0, .int 5]) (rest := [.int (M 1), .int a0, .ref hm]) ⟨hx, hb, hml, hown, hts⟩ (m_X5_own l D cI cJ cO hm mh mo my mp M mc mhol mof mdy mpd a0 5 v3 hv3) (cwV 2 hts gX5_worthNow_X5_own rfl rfl rfl (by decide +kernel) ⟨(Nat.le_of_ble_eq_true rfl), (Nat.le_of_ble_eq_true rfl)⟩) ⟨pw_blind, va_recv hK hP (ci := 4) (q0 := 0) rfl rfl, fun U hU hW => ⟨rfl, pw_at hZ va_S.rf hP hK hU hW (Or.inr rfl) [0, 1, 2, 3, 4] rfl⟩⟩ rfl rfl hl.1 rfl (lv_room (Nat.le_of_ble_eq_true rfl)) dX5_worthNow_17 ⟨(Nat.le_of_ble_eq_true rfl), (Nat.le_of_ble_eq_true rfl)⟩) ?_
    refine lv_iload_n hx hb dX5_worthNow_20 rfl (lv_at hl 2 rfl) ?_
    obtain ⟨v4, hv4, hf⟩ := ob hf
    refine cSl (W.runV (As := [.int a0, .int (M 1), .int v3, .int a1]) (rest := []) ⟨hx, hb, hml, hown, hts⟩ (m_X5_worthOn l D cI cJ cO hm mh mo my mp M mc mhol mof mdy mpd a0 (M 1) v3 a1 N v4 hv4) (cwV 4 hts gX5_worthNow_X5_worthOn rfl rfl rfl (by decide +kernel) ⟨(Nat.le_of_ble_eq_true rfl), (Nat.le_of_ble_eq_true rfl)⟩) ⟨pw_blind, va_recv hK hP (ci := 4) (q0 := 0) rfl rfl, fun U hU hW => ⟨rfl, pw_at hZ va_S.rf hP hK hU hW (Or.inr rfl) [0, 1, 2, 3, 4] rfl⟩⟩ rfl rfl hl.1 rfl (lv_room (Nat.le_of_ble_eq_true rfl)) dX5_worthNow_21 ⟨(Nat.le_of_ble_eq_true rfl), (Nat.le_of_ble_eq_true rfl)⟩) ?_
    refine lv_goto (tgt := 28) hx hb dX5_worthNow_24 (by decide) ?_
    exact W.lret hx hb hr (fun t ht _ => ⟨_, rfl, Option.some.inj hf, ht⟩) (fun q hq => absurd hq List.not_mem_nil) dX5_worthNow_28
theorem inX5_fullPrice_X5 : ∀ w ∈ wsX50, w ∈ wsX5_fullPrice := by decide +kernel
set_option maxHeartbeats 4000000 in
set_option maxRecDepth 100000 in
theorem m_X5_fullPrice (l : Launch) (D : va_G) (cI cJ cO : ClassId) (hm : Nat) (mh : Nat) (mo : Nat) (my : Nat) (mp : Nat) (M : Nat → Int32) (mc : Int64) (mhol : Nat → Int32) (mof : Nat → Int32) (mdy : Nat → Int32) (mpd : Nat → Int64) (a0 : Int32) (a1 : Int32) (N : Nat) (r : Int64) (hf : f_X5_fullPrice N M mof mdy a0 a1 = some r) : Met l yX5_fullPrice wsX5_fullPrice ({ frames := 4, cells := 0, slots := 0, locals := 94 }) (va_Pc [.ref hm, .int a0, .int a1] (pw D (ty3 cI cJ cO) none [eM hm mh mo my mp M mc, eH cI mh mhol, eO cI mo mof, eY cI my mdy, eP cJ mp mpd])) (QSl r) 0 0 (fun _ => False) := by
  refine Met.ofW (cc := cX5_fullPrice) (maxL := 3) (ret := (some .long)) (by decide) rfl ?_
  intro p e s m args below meth c s₁ Bd hml hv
  obtain ⟨rfl, hZ, hP, hK⟩ := hv
  have hx := Bd.exec
  have hb := Bd.bytes
  have hr := Bd.returns
  have hts := atoms_spec (ws := wsX5_fullPrice) Bd.pre
  have hown : s.vm.findClass RX5 = some m.cls := findClass_of_methodNamed Bd.named
  have hlocks := Bd.notSynchronized
  have hl := lv_entry ([.ref hm, .int a0, .int a1]) (n := 3) (Nat.le_of_ble_eq_true rfl)
  rw [lg_entry_eq]
  generalize (lg_sl ([.ref hm, .int a0, .int a1]) ++ List.replicate (3 - (lg_sl ([.ref hm, .int a0, .int a1])).length) Slot.unset).toArray = ls at hl ⊢
  have hl : lv_has ls 3 [(0, .ref hm), (1, .int a0), (2, .int a1)] := hl
  unfold f_X5_fullPrice at hf
  refine lv_ldc2 hx hb hown (hts (.constantLong RX5 159 (10)) (by decide +kernel)) dX5_fullPrice_0 ?_
  refine lv_aload_n hx hb dX5_fullPrice_3 rfl (lv_at hl 0 rfl) ?_
  refine lv_iload_n hx hb dX5_fullPrice_4 rfl (lv_at hl 1 rfl) ?_
  refine lv_iconst (v := 5) hx hb dX5_fullPrice_5 (by decide) ?_
  obtain ⟨v1, hv1, hf⟩ := ob hf
  refine cSi (W.runV (As := [.int a0, .int 5]) (rest := [.long 10]) ⟨hx, hb, hml, hown, hts⟩ (m_X5_own l D cI cJ cO hm mh mo my mp M mc mhol mof mdy mpd a0 5 v1 hv1) (cwV 2 hts gX5_fullPrice_X5_own rfl rfl rfl (by decide +kernel) ⟨(Nat.le_of_ble_eq_true rfl), (Nat.le_of_ble_eq_true rfl)⟩) ⟨pw_blind, va_recv hK hP (ci := 4) (q0 := 0) rfl rfl, fun U hU hW => ⟨rfl, pw_at hZ va_S.rf hP hK hU hW (Or.inr rfl) [0, 1, 2, 3, 4] rfl⟩⟩ rfl rfl hl.1 rfl (lv_room (Nat.le_of_ble_eq_true rfl)) dX5_fullPrice_6 ⟨(Nat.le_of_ble_eq_true rfl), (Nat.le_of_ble_eq_true rfl)⟩) ?_
  refine lv_i2l hx hb dX5_fullPrice_9 rfl ?_
  refine lv_lmul hx hb dX5_fullPrice_10 ?_
  refine lv_iload_n hx hb dX5_fullPrice_11 rfl (lv_at hl 2 rfl) ?_
  refine lv_i2l hx hb dX5_fullPrice_12 rfl ?_
  refine lv_lmul hx hb dX5_fullPrice_13 ?_
  refine lv_ldc2 hx hb hown (hts (.constantLong RX5 132 (10000)) (by decide +kernel)) dX5_fullPrice_14 ?_
  refine lv_ldiv hx hb dX5_fullPrice_17 (by decide) ?_
  refine lv_aload_n hx hb dX5_fullPrice_18 rfl (lv_at hl 0 rfl) ?_
  refine lv_iload_n hx hb dX5_fullPrice_19 rfl (lv_at hl 1 rfl) ?_
  refine lv_aload_n hx hb dX5_fullPrice_20 rfl (lv_at hl 0 rfl) ?_
  refine va_get (D := D) (ci := 4) (v := .int (M 1)) (C := RX5) (T := TX5) (N := 10) hx hb hts inX5_fullPrice_X5 hown hK hP 0 rfl rfl 1 (by decide) (hts (.fieldLink RX5 14 "BondDeskModel" "today" "I") (by decide +kernel)) (fun _ h9 => h9) rfl dX5_fullPrice_21 ?_
  obtain ⟨v2, hv2, hf⟩ := ob hf
  refine cSi (W.runV (As := [.int a0, .int (M 1)]) (rest := [.long (((10 * v1.toInt64) * a1.toInt64) / 10000)]) ⟨hx, hb, hml, hown, hts⟩ (m_X5_accruedOn l D cI cJ cO hm mh mo my mp M mc mhol mof mdy mpd a0 (M 1) N v2 hv2) (cwV 2 hts gX5_fullPrice_X5_accruedOn rfl rfl rfl (by decide +kernel) ⟨(Nat.le_of_ble_eq_true rfl), (Nat.le_of_ble_eq_true rfl)⟩) ⟨pw_blind, va_recv hK hP (ci := 4) (q0 := 0) rfl rfl, fun U hU hW => ⟨rfl, pw_at hZ va_S.rf hP hK hU hW (Or.inr rfl) [0, 1, 2, 3, 4] rfl⟩⟩ rfl rfl hl.1 rfl (lv_room (Nat.le_of_ble_eq_true rfl)) dX5_fullPrice_24 ⟨(Nat.le_of_ble_eq_true rfl), (Nat.le_of_ble_eq_true rfl)⟩) ?_
  refine lv_i2l hx hb dX5_fullPrice_27 rfl ?_
  refine lv_ladd hx hb dX5_fullPrice_28 ?_
  exact W.lret hx hb hr (fun t ht _ => ⟨_, rfl, Option.some.inj hf, ht⟩) (fun q hq => absurd hq List.not_mem_nil) dX5_fullPrice_29
set_option maxHeartbeats 4000000 in
set_option maxRecDepth 100000 in
theorem m_X5_yielded (l : Launch) (D : va_G) (cI cJ cO : ClassId) (hm : Nat) (mh : Nat) (mo : Nat) (my : Nat) (mp : Nat) (M : Nat → Int32) (mc : Int64) (mhol : Nat → Int32) (mof : Nat → Int32) (mdy : Nat → Int32) (mpd : Nat → Int64) (a0 : Int32) (a1 : Int32) (N : Nat) (r : Int32) (hf : f_X5_yielded N M mof mdy a0 a1 = some r) : Met l yX5_yielded wsX5_yielded ({ frames := 6, cells := 0, slots := 0, locals := 151 }) (va_Pc [.ref hm, .int a0, .int a1] (pw D (ty3 cI cJ cO) none [eM hm mh mo my mp M mc, eH cI mh mhol, eO cI mo mof, eY cI my mdy, eP cJ mp mpd])) (QSi r) 0 0 (fun _ => False) := by
  refine Met.ofW (cc := cX5_yielded) (maxL := 8) (ret := (some .int)) (by decide) rfl ?_
  intro p e s m args below meth c s₁ Bd hml hv
  obtain ⟨rfl, hZ, hP, hK⟩ := hv
  have hx := Bd.exec
  have hb := Bd.bytes
  have hr := Bd.returns
  have hts := atoms_spec (ws := wsX5_yielded) Bd.pre
  have hown : s.vm.findClass RX5 = some m.cls := findClass_of_methodNamed Bd.named
  have hlocks := Bd.notSynchronized
  have hl := lv_entry ([.ref hm, .int a0, .int a1]) (n := 8) (Nat.le_of_ble_eq_true rfl)
  rw [lg_entry_eq]
  generalize (lg_sl ([.ref hm, .int a0, .int a1]) ++ List.replicate (8 - (lg_sl ([.ref hm, .int a0, .int a1])).length) Slot.unset).toArray = ls at hl ⊢
  have hl : lv_has ls 8 [(0, .ref hm), (1, .int a0), (2, .int a1)] := hl
  unfold f_X5_yielded at hf
  refine lv_aload_n hx hb dX5_yielded_0 rfl (lv_at hl 0 rfl) ?_
  refine lv_iload_n hx hb dX5_yielded_1 rfl (lv_at hl 1 rfl) ?_
  obtain ⟨v1, hv1, hf⟩ := ob hf
  refine cSz (W.runV (As := [.int a0]) (rest := []) ⟨hx, hb, hml, hown, hts⟩ (m_X5_isThere l D cI cJ cO hm mh mo my mp M mc mhol mof mdy mpd a0 v1 hv1) (cwV 1 hts gX5_yielded_X5_isThere rfl rfl rfl (by decide +kernel) ⟨(Nat.le_of_ble_eq_true rfl), (Nat.le_of_ble_eq_true rfl)⟩) ⟨pw_blind, va_recv hK hP (ci := 4) (q0 := 0) rfl rfl, fun U hU hW => ⟨rfl, pw_at hZ va_S.rf hP hK hU hW (Or.inr rfl) [0, 1, 2, 3, 4] rfl⟩⟩ rfl rfl hl.1 rfl (lv_room (Nat.le_of_ble_eq_true rfl)) dX5_yielded_2 ⟨(Nat.le_of_ble_eq_true rfl), (Nat.le_of_ble_eq_true rfl)⟩) (fun zv1 => ?_)
  refine lv_if_ne (tgt := 10) hx hb dX5_yielded_5 (by decide) (fun c2 => ?_) (fun c2 => ?_)
  · have hf := ie hf c2
    refine lv_aload_n hx hb dX5_yielded_10 rfl (lv_at hl 0 rfl) ?_
    refine lv_iload_n hx hb dX5_yielded_11 rfl (lv_at hl 1 rfl) ?_
    refine lv_iload_n hx hb dX5_yielded_12 rfl (lv_at hl 2 rfl) ?_
    obtain ⟨v3, hv3, hf⟩ := ob hf
    refine cSl (W.runV (As := [.int a0, .int a1]) (rest := []) ⟨hx, hb, hml, hown, hts⟩ (m_X5_fullPrice l D cI cJ cO hm mh mo my mp M mc mhol mof mdy mpd a0 a1 N v3 hv3) (cwV 2 hts gX5_yielded_X5_fullPrice rfl rfl rfl (by decide +kernel) ⟨(Nat.le_of_ble_eq_true rfl), (Nat.le_of_ble_eq_true rfl)⟩) ⟨pw_blind, va_recv hK hP (ci := 4) (q0 := 0) rfl rfl, fun U hU hW => ⟨rfl, pw_at hZ va_S.rf hP hK hU hW (Or.inr rfl) [0, 1, 2, 3, 4] rfl⟩⟩ rfl rfl hl.1 rfl (lv_room (Nat.le_of_ble_eq_true rfl)) dX5_yielded_13 ⟨(Nat.le_of_ble_eq_true rfl), (Nat.le_of_ble_eq_true rfl)⟩) ?_
    refine lv_lstore_n (lv' := [(3, .long v3), (0, .ref hm), (1, .int a0), (2, .int a1)]) hx hb dX5_yielded_16 rfl hl (by decide) rfl (fun ls hl => ?_)
    refine lv_iconst (v := (-1)) hx hb dX5_yielded_17 (by decide) ?_
    refine lv_topi (fun x4 ex4 => ?_)
    have hf := bd_s hf ex4
    refine lv_istore (lv' := [(5, .int x4), (3, .long v3), (0, .ref hm), (1, .int a0), (2, .int a1)]) hx hb dX5_yielded_18 hl (by decide) rfl (fun ls hl => ?_)
    refine lv_sipush (v := 5001) hx hb dX5_yielded_20 (by decide) ?_
    refine lv_istore (lv' := [(6, .int 5001), (5, .int x4), (3, .long v3), (0, .ref hm), (1, .int a0), (2, .int a1)]) hx hb dX5_yielded_23 hl (by decide) rfl (fun ls hl => ?_)
    have LP25 : ∀ (n7 : Nat) (x5 : Int32) (x6 : Int32) (ls : Array Slot), lv_has ls 8 [(0, .ref hm), (1, .int a0), (3, .long v3), (5, .int x5), (6, .int x6)] → f_X5_yielded_L25 N M mof mdy a0 v3 n7 x5 x6 = some r → W p l e (headSpec wsX5_yielded ({ frames := 6, cells := 0, slots := 0, locals := 151 })).room s m ([.ref hm, .int a0, .int a1] : List Value).toArray below meth c s.heap [] 0 0 (MQ below (QSi r) ([.ref hm, .int a0, .int a1] : List Value).toArray s 0 0 (fun _ => False)) (F0 m 25 ls []) := by
      intro n7
      induction n7 with
      | zero => intro x5 x6 ls hl hf; exact (no_s hf).elim
      | succ n7 ih7 =>
        intro x5 x6 ls hl hf
        rw [f_X5_yielded_L25] at hf
        refine lv_iload hx hb dX5_yielded_25 (lv_at hl 4 rfl) ?_
        refine lv_iload hx hb dX5_yielded_27 (lv_at hl 3 rfl) ?_
        refine lv_isub hx hb dX5_yielded_29 ?_
        refine lv_iconst (v := 1) hx hb dX5_yielded_30 (by decide) ?_
        refine lv_icmp_le (tgt := 69) hx hb dX5_yielded_31 (by decide) (fun c8 => ?_) (fun c8 => ?_)
        · have hf := it hf c8
          refine lv_iload hx hb dX5_yielded_69 (lv_at hl 3 rfl) ?_
          exact W.iret hx hb hr (fun t ht _ => ⟨_, rfl, Option.some.inj hf, ht⟩) (fun q hq => absurd hq List.not_mem_nil) dX5_yielded_71
        · have hf := ie hf c8
          refine lv_iload hx hb dX5_yielded_34 (lv_at hl 4 rfl) ?_
          refine lv_iload hx hb dX5_yielded_36 (lv_at hl 3 rfl) ?_
          refine lv_iadd hx hb dX5_yielded_38 ?_
          refine lv_iconst (v := 2) hx hb dX5_yielded_39 (by decide) ?_
          refine lv_idiv hx hb dX5_yielded_40 (by decide) ?_
          refine lv_topi (fun x9 ex9 => ?_)
          have hf := bd_s hf ex9
          refine lv_istore (lv' := [(7, .int x9), (0, .ref hm), (1, .int a0), (3, .long v3), (5, .int x5), (6, .int x6)]) hx hb dX5_yielded_41 hl (by decide) rfl (fun ls hl => ?_)
          refine lv_aload_n hx hb dX5_yielded_43 rfl (lv_at hl 1 rfl) ?_
          refine lv_iload_n hx hb dX5_yielded_44 rfl (lv_at hl 2 rfl) ?_
          refine lv_iload hx hb dX5_yielded_45 (lv_at hl 0 rfl) ?_
          obtain ⟨v10, hv10, hf⟩ := ob hf
          refine cSl (W.runV (As := [.int a0, .int x9]) (rest := []) ⟨hx, hb, hml, hown, hts⟩ (m_X5_worthNow l D cI cJ cO hm mh mo my mp M mc mhol mof mdy mpd a0 x9 N v10 hv10) (cwV 2 hts gX5_yielded_X5_worthNow rfl rfl rfl (by decide +kernel) ⟨(Nat.le_of_ble_eq_true rfl), (Nat.le_of_ble_eq_true rfl)⟩) ⟨pw_blind, va_recv hK hP (ci := 4) (q0 := 0) rfl rfl, fun U hU hW => ⟨rfl, pw_at hZ va_S.rf hP hK hU hW (Or.inr rfl) [0, 1, 2, 3, 4] rfl⟩⟩ rfl rfl hl.1 rfl (lv_room (Nat.le_of_ble_eq_true rfl)) dX5_yielded_47 ⟨(Nat.le_of_ble_eq_true rfl), (Nat.le_of_ble_eq_true rfl)⟩) ?_
          refine lv_lload_n hx hb dX5_yielded_50 rfl (lv_at hl 3 rfl) ?_
          refine W.lcmp hx hb dX5_yielded_51 ?_
          refine lv_if_lt (tgt := 62) hx hb dX5_yielded_52 (by decide) (fun c11 => ?_) (fun c11 => ?_)
          · have hf := it hf c11
            refine lv_iload hx hb dX5_yielded_62 (lv_at hl 0 rfl) ?_
            refine lv_istore (lv' := [(6, .int x9), (7, .int x9), (0, .ref hm), (1, .int a0), (3, .long v3), (5, .int x5)]) hx hb dX5_yielded_64 hl (by decide) rfl (fun ls hl => ?_)
            refine lv_goto (tgt := 25) hx hb dX5_yielded_66 (by decide) ?_
            exact ih7 x5 x9 ls (lv_sub hl [2, 3, 4, 5, 0] rfl) hf
          · have hf := ie hf c11
            refine lv_iload hx hb dX5_yielded_55 (lv_at hl 0 rfl) ?_
            refine lv_istore (lv' := [(5, .int x9), (7, .int x9), (0, .ref hm), (1, .int a0), (3, .long v3), (6, .int x6)]) hx hb dX5_yielded_57 hl (by decide) rfl (fun ls hl => ?_)
            refine lv_goto (tgt := 66) hx hb dX5_yielded_59 (by decide) ?_
            refine lv_goto (tgt := 25) hx hb dX5_yielded_66 (by decide) ?_
            exact ih7 x9 x6 ls (lv_sub hl [2, 3, 4, 0, 5] rfl) hf
    exact LP25 N x4 5001 ls (lv_sub hl [3, 4, 2, 1, 0] rfl) hf
  · have hf := it hf c2
    refine lv_iconst (v := (-1)) hx hb dX5_yielded_8 (by decide) ?_
    exact W.iret hx hb hr (fun t ht _ => ⟨_, rfl, Option.some.inj hf, ht⟩) (fun q hq => absurd hq List.not_mem_nil) dX5_yielded_9
set_option maxHeartbeats 4000000 in
set_option maxRecDepth 100000 in
theorem m_X5_callPaid (l : Launch) (D : va_G) (cI cJ cO : ClassId) (hm : Nat) (mh : Nat) (mo : Nat) (my : Nat) (mp : Nat) (M : Nat → Int32) (mc : Int64) (mhol : Nat → Int32) (mof : Nat → Int32) (mdy : Nat → Int32) (mpd : Nat → Int64) (a0 : Int32) (a1 : Int32) (r : Int64) (hf : f_X5_callPaid mof a0 a1 = some r) : Met l yX5_callPaid wsX5_callPaid ({ frames := 1, cells := 0, slots := 0, locals := 22 }) (va_Pc [.ref hm, .int a0, .int a1] (pw D (ty3 cI cJ cO) none [eM hm mh mo my mp M mc, eH cI mh mhol, eO cI mo mof, eY cI my mdy, eP cJ mp mpd])) (QSl r) 0 0 (fun _ => False) := by
  refine Met.ofW (cc := cX5_callPaid) (maxL := 3) (ret := (some .long)) (by decide) rfl ?_
  intro p e s m args below meth c s₁ Bd hml hv
  obtain ⟨rfl, hZ, hP, hK⟩ := hv
  have hx := Bd.exec
  have hb := Bd.bytes
  have hr := Bd.returns
  have hts := atoms_spec (ws := wsX5_callPaid) Bd.pre
  have hown : s.vm.findClass RX5 = some m.cls := findClass_of_methodNamed Bd.named
  have hlocks := Bd.notSynchronized
  have hl := lv_entry ([.ref hm, .int a0, .int a1]) (n := 3) (Nat.le_of_ble_eq_true rfl)
  rw [lg_entry_eq]
  generalize (lg_sl ([.ref hm, .int a0, .int a1]) ++ List.replicate (3 - (lg_sl ([.ref hm, .int a0, .int a1])).length) Slot.unset).toArray = ls at hl ⊢
  have hl : lv_has ls 3 [(0, .ref hm), (1, .int a0), (2, .int a1)] := hl
  unfold f_X5_callPaid at hf
  refine lv_ldc2 hx hb hown (hts (.constantLong RX5 159 (10)) (by decide +kernel)) dX5_callPaid_0 ?_
  refine lv_iload_n hx hb dX5_callPaid_3 rfl (lv_at hl 2 rfl) ?_
  refine lv_i2l hx hb dX5_callPaid_4 rfl ?_
  refine lv_lmul hx hb dX5_callPaid_5 ?_
  refine lv_aload_n hx hb dX5_callPaid_6 rfl (lv_at hl 0 rfl) ?_
  refine lv_iload_n hx hb dX5_callPaid_7 rfl (lv_at hl 1 rfl) ?_
  refine lv_bipush (v := 13) hx hb dX5_callPaid_8 (by decide) ?_
  obtain ⟨v1, hv1, hf⟩ := ob hf
  refine cSi (W.runV (As := [.int a0, .int 13]) (rest := [.long (10 * a1.toInt64)]) ⟨hx, hb, hml, hown, hts⟩ (m_X5_own l D cI cJ cO hm mh mo my mp M mc mhol mof mdy mpd a0 13 v1 hv1) (cwV 2 hts gX5_callPaid_X5_own rfl rfl rfl (by decide +kernel) ⟨(Nat.le_of_ble_eq_true rfl), (Nat.le_of_ble_eq_true rfl)⟩) ⟨pw_blind, va_recv hK hP (ci := 4) (q0 := 0) rfl rfl, fun U hU hW => ⟨rfl, pw_at hZ va_S.rf hP hK hU hW (Or.inr rfl) [0, 1, 2, 3, 4] rfl⟩⟩ rfl rfl hl.1 rfl (lv_room (Nat.le_of_ble_eq_true rfl)) dX5_callPaid_10 ⟨(Nat.le_of_ble_eq_true rfl), (Nat.le_of_ble_eq_true rfl)⟩) ?_
  refine lv_i2l hx hb dX5_callPaid_13 rfl ?_
  refine lv_lmul hx hb dX5_callPaid_14 ?_
  refine lv_ldc2 hx hb hown (hts (.constantLong RX5 132 (10000)) (by decide +kernel)) dX5_callPaid_15 ?_
  refine lv_ldiv hx hb dX5_callPaid_18 (by decide) ?_
  exact W.lret hx hb hr (fun t ht _ => ⟨_, rfl, Option.some.inj hf, ht⟩) (fun q hq => absurd hq List.not_mem_nil) dX5_callPaid_19
theorem inX5_counted_X5 : ∀ w ∈ wsX50, w ∈ wsX5_counted := by decide +kernel
set_option maxHeartbeats 4000000 in
set_option maxRecDepth 100000 in
theorem m_X5_counted (l : Launch) (D : va_G) (cI cJ cO : ClassId) (hm : Nat) (mh : Nat) (mo : Nat) (my : Nat) (mp : Nat) (M : Nat → Int32) (mc : Int64) (mhol : Nat → Int32) (mof : Nat → Int32) (mdy : Nat → Int32) (mpd : Nat → Int64) (a0 : Int32) (N : Nat) (r : Int64) (hf : f_X5_counted N M mc mof mdy mpd a0 = some r) : Met l yX5_counted wsX5_counted ({ frames := 6, cells := 0, slots := 0, locals := 151 }) (va_Pc [.ref hm, .int a0] (pw D (ty3 cI cJ cO) none [eM hm mh mo my mp M mc, eH cI mh mhol, eO cI mo mof, eY cI my mdy, eP cJ mp mpd])) (QSl r) 0 0 (fun _ => False) := by
  refine Met.ofW (cc := cX5_counted) (maxL := 9) (ret := (some .long)) (by decide) rfl ?_
  intro p e s m args below meth c s₁ Bd hml hv
  obtain ⟨rfl, hZ, hP, hK⟩ := hv
  have hx := Bd.exec
  have hb := Bd.bytes
  have hr := Bd.returns
  have hts := atoms_spec (ws := wsX5_counted) Bd.pre
  have hown : s.vm.findClass RX5 = some m.cls := findClass_of_methodNamed Bd.named
  have hlocks := Bd.notSynchronized
  have hl := lv_entry ([.ref hm, .int a0]) (n := 9) (Nat.le_of_ble_eq_true rfl)
  rw [lg_entry_eq]
  generalize (lg_sl ([.ref hm, .int a0]) ++ List.replicate (9 - (lg_sl ([.ref hm, .int a0])).length) Slot.unset).toArray = ls at hl ⊢
  have hl : lv_has ls 9 [(0, .ref hm), (1, .int a0)] := hl
  unfold f_X5_counted at hf
  refine lv_lconst (v := 0) hx hb dX5_counted_0 (by decide) ?_
  refine lv_lstore_n (lv' := [(2, .long 0), (0, .ref hm), (1, .int a0)]) hx hb dX5_counted_1 rfl hl (by decide) rfl (fun ls hl => ?_)
  refine lv_lconst (v := 0) hx hb dX5_counted_2 (by decide) ?_
  refine lv_lstore (lv' := [(4, .long 0), (2, .long 0), (0, .ref hm), (1, .int a0)]) hx hb dX5_counted_3 hl (by decide) rfl (fun ls hl => ?_)
  refine lv_iconst (v := 0) hx hb dX5_counted_5 (by decide) ?_
  refine lv_istore (lv' := [(6, .int 0), (4, .long 0), (2, .long 0), (0, .ref hm), (1, .int a0)]) hx hb dX5_counted_6 hl (by decide) rfl (fun ls hl => ?_)
  obtain ⟨K4, hK4, hf⟩ := kx_s (P := fun k => f_X5_counted_L8 M mof k N 0 0 0 = some r) hf
  have JK4 : ∀ (x5 : Int64) (x6 : Int64) (ls : Array Slot), lv_has ls 9 [(0, .ref hm), (1, .int a0), (2, .long x5), (4, .long x6)] → K4 x5 x6 = some r → W p l e (headSpec wsX5_counted ({ frames := 6, cells := 0, slots := 0, locals := 151 })).room s m ([.ref hm, .int a0] : List Value).toArray below meth c s.heap [] 0 0 (MQ below (QSl r) ([.ref hm, .int a0] : List Value).toArray s 0 0 (fun _ => False)) (F0 m 54 ls []) := by
    intro x5 x6 ls hl hf
    rw [hK4] at hf
    refine lv_iload_n hx hb dX5_counted_54 rfl (lv_at hl 1 rfl) ?_
    by_cases c17 : a0 = 0
    · have hf := it hf c17
      refine lv_tableIn (off := 61) (tgt := 116) hx hb dX5_counted_55 (by rw [c17]; decide) (by rw [c17]; decide) (by rw [c17]; rfl) (by decide) ?_
      refine lv_aload_n hx hb dX5_counted_116 rfl (lv_at hl 0 rfl) ?_
      refine va_get (D := D) (ci := 4) (v := .int (M 1)) (C := RX5) (T := TX5) (N := 10) hx hb hts inX5_counted_X5 hown hK hP 0 rfl rfl 1 (by decide) (hts (.fieldLink RX5 14 "BondDeskModel" "today" "I") (by decide +kernel)) (fun _ h9 => h9) rfl dX5_counted_117 ?_
      obtain ⟨v18, hv18, hf⟩ := ob hf
      refine cSi (W.runS (As := [.int (M 1)]) (rest := []) ⟨hx, hb, hml, hown, hts⟩ (m_X5_date l D cI cJ cO (M 1) N v18 hv18) (va_cwS 1 hts gX5_counted_X5_date rfl rfl rfl (by decide +kernel) ⟨(Nat.le_of_ble_eq_true rfl), (Nat.le_of_ble_eq_true rfl)⟩) ⟨pw_blind, fun U hU hW => ⟨rfl, pw_at hZ va_S.rf hP hK hU hW (Or.inr rfl) [] rfl⟩⟩ rfl rfl hl.1 rfl (lv_room (Nat.le_of_ble_eq_true rfl)) dX5_counted_120 ⟨(Nat.le_of_ble_eq_true rfl), (Nat.le_of_ble_eq_true rfl)⟩) ?_
      refine lv_i2l hx hb dX5_counted_123 rfl ?_
      exact W.lret hx hb hr (fun t ht _ => ⟨_, rfl, Option.some.inj hf, ht⟩) (fun q hq => absurd hq List.not_mem_nil) dX5_counted_124
    have hf := ie hf c17
    by_cases c19 : a0 = 1
    · have hf := it hf c19
      refine lv_tableIn (off := 70) (tgt := 125) hx hb dX5_counted_55 (by rw [c19]; decide) (by rw [c19]; decide) (by rw [c19]; rfl) (by decide) ?_
      refine lv_aload_n hx hb dX5_counted_125 rfl (lv_at hl 0 rfl) ?_
      refine va_get (D := D) (ci := 4) (v := .long mc) (C := RX5) (T := TX5) (N := 10) hx hb hts inX5_counted_X5 hown hK hP 0 rfl rfl 2 (by decide) (hts (.fieldLink RX5 20 "BondDeskModel" "cash" "J") (by decide +kernel)) (fun _ h9 => h9) rfl dX5_counted_126 ?_
      exact W.lret hx hb hr (fun t ht _ => ⟨_, rfl, Option.some.inj hf, ht⟩) (fun q hq => absurd hq List.not_mem_nil) dX5_counted_129
    have hf := ie hf c19
    by_cases c20 : a0 = 2
    · have hf := it hf c20
      refine lv_tableIn (off := 75) (tgt := 130) hx hb dX5_counted_55 (by rw [c20]; decide) (by rw [c20]; decide) (by rw [c20]; rfl) (by decide) ?_
      refine lv_aload_n hx hb dX5_counted_130 rfl (lv_at hl 0 rfl) ?_
      refine va_get (D := D) (ci := 4) (v := .int (M 3)) (C := RX5) (T := TX5) (N := 10) hx hb hts inX5_counted_X5 hown hK hP 0 rfl rfl 3 (by decide) (hts (.fieldLink RX5 24 "BondDeskModel" "rate" "I") (by decide +kernel)) (fun _ h9 => h9) rfl dX5_counted_131 ?_
      refine lv_i2l hx hb dX5_counted_134 rfl ?_
      exact W.lret hx hb hr (fun t ht _ => ⟨_, rfl, Option.some.inj hf, ht⟩) (fun q hq => absurd hq List.not_mem_nil) dX5_counted_135
    have hf := ie hf c20
    by_cases c21 : a0 = 3
    · have hf := it hf c21
      refine lv_tableIn (off := 81) (tgt := 136) hx hb dX5_counted_55 (by rw [c21]; decide) (by rw [c21]; decide) (by rw [c21]; rfl) (by decide) ?_
      refine lv_aload_n hx hb dX5_counted_136 rfl (lv_at hl 0 rfl) ?_
      refine va_get (D := D) (ci := 4) (v := .int (M 4)) (C := RX5) (T := TX5) (N := 10) hx hb hts inX5_counted_X5 hown hK hP 0 rfl rfl 4 (by decide) (hts (.fieldLink RX5 77 "BondDeskModel" "bonds" "I") (by decide +kernel)) (fun _ h9 => h9) rfl dX5_counted_137 ?_
      refine lv_i2l hx hb dX5_counted_140 rfl ?_
      exact W.lret hx hb hr (fun t ht _ => ⟨_, rfl, Option.some.inj hf, ht⟩) (fun q hq => absurd hq List.not_mem_nil) dX5_counted_141
    have hf := ie hf c21
    by_cases c22 : a0 = 4
    · have hf := it hf c22
      refine lv_tableIn (off := 87) (tgt := 142) hx hb dX5_counted_55 (by rw [c22]; decide) (by rw [c22]; decide) (by rw [c22]; rfl) (by decide) ?_
      refine lv_lload_n hx hb dX5_counted_142 rfl (lv_at hl 2 rfl) ?_
      exact W.lret hx hb hr (fun t ht _ => ⟨_, rfl, Option.some.inj hf, ht⟩) (fun q hq => absurd hq List.not_mem_nil) dX5_counted_143
    have hf := ie hf c22
    by_cases c23 : a0 = 5
    · have hf := it hf c23
      refine lv_tableIn (off := 89) (tgt := 144) hx hb dX5_counted_55 (by rw [c23]; decide) (by rw [c23]; decide) (by rw [c23]; rfl) (by decide) ?_
      refine lv_aload_n hx hb dX5_counted_144 rfl (lv_at hl 0 rfl) ?_
      refine va_get (D := D) (ci := 4) (v := .int (M 5)) (C := RX5) (T := TX5) (N := 10) hx hb hts inX5_counted_X5 hown hK hP 0 rfl rfl 5 (by decide) (hts (.fieldLink RX5 57 "BondDeskModel" "holidays" "I") (by decide +kernel)) (fun _ h9 => h9) rfl dX5_counted_145 ?_
      refine lv_i2l hx hb dX5_counted_148 rfl ?_
      exact W.lret hx hb hr (fun t ht _ => ⟨_, rfl, Option.some.inj hf, ht⟩) (fun q hq => absurd hq List.not_mem_nil) dX5_counted_149
    have hf := ie hf c23
    by_cases c24 : a0 = 6
    · have hf := it hf c24
      refine lv_tableIn (off := 95) (tgt := 150) hx hb dX5_counted_55 (by rw [c24]; decide) (by rw [c24]; decide) (by rw [c24]; rfl) (by decide) ?_
      refine lv_lload hx hb dX5_counted_150 (lv_at hl 3 rfl) ?_
      exact W.lret hx hb hr (fun t ht _ => ⟨_, rfl, Option.some.inj hf, ht⟩) (fun q hq => absurd hq List.not_mem_nil) dX5_counted_152
    have hf := ie hf c24
    by_cases c25 : a0 = 7
    · have hf := it hf c25
      refine lv_tableIn (off := 158) (tgt := 213) hx hb dX5_counted_55 (by rw [c25]; decide) (by rw [c25]; decide) (by rw [c25]; rfl) (by decide) ?_
      refine lv_aload_n hx hb dX5_counted_213 rfl (lv_at hl 0 rfl) ?_
      refine va_get (D := D) (ci := 4) (v := .ref mp) (C := RX5) (T := TX5) (N := 10) hx hb hts inX5_counted_X5 hown hK hP 0 rfl rfl 9 (by decide) (hts (.fieldLink RX5 37 "BondDeskModel" "paid" "[J") (by decide +kernel)) (fun _ h9 => h9) rfl dX5_counted_214 ?_
      refine lv_iload_n hx hb dX5_counted_217 rfl (lv_at hl 1 rfl) ?_
      refine lv_bipush (v := 7) hx hb dX5_counted_218 (by decide) ?_
      refine lv_isub hx hb dX5_counted_220 ?_
      refine lv_topi (fun x26 ex26 => ?_)
      have hf := bd_s hf ex26
      obtain ⟨c27, hf⟩ := gd_s hf
      refine va_lald hx hb hK hP 4 1 rfl rfl c27 dX5_counted_221 ?_
      exact W.lret hx hb hr (fun t ht _ => ⟨_, rfl, Option.some.inj hf, ht⟩) (fun q hq => absurd hq List.not_mem_nil) dX5_counted_222
    have hf := ie hf c25
    by_cases c28 : a0 = 8
    · have hf := it hf c28
      refine lv_tableIn (off := 158) (tgt := 213) hx hb dX5_counted_55 (by rw [c28]; decide) (by rw [c28]; decide) (by rw [c28]; rfl) (by decide) ?_
      refine lv_aload_n hx hb dX5_counted_213 rfl (lv_at hl 0 rfl) ?_
      refine va_get (D := D) (ci := 4) (v := .ref mp) (C := RX5) (T := TX5) (N := 10) hx hb hts inX5_counted_X5 hown hK hP 0 rfl rfl 9 (by decide) (hts (.fieldLink RX5 37 "BondDeskModel" "paid" "[J") (by decide +kernel)) (fun _ h9 => h9) rfl dX5_counted_214 ?_
      refine lv_iload_n hx hb dX5_counted_217 rfl (lv_at hl 1 rfl) ?_
      refine lv_bipush (v := 7) hx hb dX5_counted_218 (by decide) ?_
      refine lv_isub hx hb dX5_counted_220 ?_
      refine lv_topi (fun x29 ex29 => ?_)
      have hf := bd_s hf ex29
      obtain ⟨c30, hf⟩ := gd_s hf
      refine va_lald hx hb hK hP 4 1 rfl rfl c30 dX5_counted_221 ?_
      exact W.lret hx hb hr (fun t ht _ => ⟨_, rfl, Option.some.inj hf, ht⟩) (fun q hq => absurd hq List.not_mem_nil) dX5_counted_222
    have hf := ie hf c28
    by_cases c31 : a0 = 9
    · have hf := it hf c31
      refine lv_tableIn (off := 158) (tgt := 213) hx hb dX5_counted_55 (by rw [c31]; decide) (by rw [c31]; decide) (by rw [c31]; rfl) (by decide) ?_
      refine lv_aload_n hx hb dX5_counted_213 rfl (lv_at hl 0 rfl) ?_
      refine va_get (D := D) (ci := 4) (v := .ref mp) (C := RX5) (T := TX5) (N := 10) hx hb hts inX5_counted_X5 hown hK hP 0 rfl rfl 9 (by decide) (hts (.fieldLink RX5 37 "BondDeskModel" "paid" "[J") (by decide +kernel)) (fun _ h9 => h9) rfl dX5_counted_214 ?_
      refine lv_iload_n hx hb dX5_counted_217 rfl (lv_at hl 1 rfl) ?_
      refine lv_bipush (v := 7) hx hb dX5_counted_218 (by decide) ?_
      refine lv_isub hx hb dX5_counted_220 ?_
      refine lv_topi (fun x32 ex32 => ?_)
      have hf := bd_s hf ex32
      obtain ⟨c33, hf⟩ := gd_s hf
      refine va_lald hx hb hK hP 4 1 rfl rfl c33 dX5_counted_221 ?_
      exact W.lret hx hb hr (fun t ht _ => ⟨_, rfl, Option.some.inj hf, ht⟩) (fun q hq => absurd hq List.not_mem_nil) dX5_counted_222
    have hf := ie hf c31
    by_cases c34 : a0 = 10
    · have hf := it hf c34
      refine lv_tableIn (off := 158) (tgt := 213) hx hb dX5_counted_55 (by rw [c34]; decide) (by rw [c34]; decide) (by rw [c34]; rfl) (by decide) ?_
      refine lv_aload_n hx hb dX5_counted_213 rfl (lv_at hl 0 rfl) ?_
      refine va_get (D := D) (ci := 4) (v := .ref mp) (C := RX5) (T := TX5) (N := 10) hx hb hts inX5_counted_X5 hown hK hP 0 rfl rfl 9 (by decide) (hts (.fieldLink RX5 37 "BondDeskModel" "paid" "[J") (by decide +kernel)) (fun _ h9 => h9) rfl dX5_counted_214 ?_
      refine lv_iload_n hx hb dX5_counted_217 rfl (lv_at hl 1 rfl) ?_
      refine lv_bipush (v := 7) hx hb dX5_counted_218 (by decide) ?_
      refine lv_isub hx hb dX5_counted_220 ?_
      refine lv_topi (fun x35 ex35 => ?_)
      have hf := bd_s hf ex35
      obtain ⟨c36, hf⟩ := gd_s hf
      refine va_lald hx hb hK hP 4 1 rfl rfl c36 dX5_counted_221 ?_
      exact W.lret hx hb hr (fun t ht _ => ⟨_, rfl, Option.some.inj hf, ht⟩) (fun q hq => absurd hq List.not_mem_nil) dX5_counted_222
    have hf := ie hf c34
    by_cases c37 : a0 = 11
    · have hf := it hf c37
      refine lv_tableIn (off := 98) (tgt := 153) hx hb dX5_counted_55 (by rw [c37]; decide) (by rw [c37]; decide) (by rw [c37]; rfl) (by decide) ?_
      refine lv_lconst (v := 0) hx hb dX5_counted_153 (by decide) ?_
      refine lv_lstore (lv' := [(6, .long 0), (0, .ref hm), (1, .int a0), (2, .long x5), (4, .long x6)]) hx hb dX5_counted_154 hl (by decide) rfl (fun ls hl => ?_)
      refine lv_iconst (v := 0) hx hb dX5_counted_156 (by decide) ?_
      refine lv_istore (lv' := [(8, .int 0), (6, .long 0), (0, .ref hm), (1, .int a0), (2, .long x5), (4, .long x6)]) hx hb dX5_counted_157 hl (by decide) rfl (fun ls hl => ?_)
      have LP159 : ∀ (n40 : Nat) (x38 : Int64) (x39 : Int32) (ls : Array Slot), lv_has ls 9 [(0, .ref hm), (6, .long x38), (8, .int x39)] → f_X5_counted_L159 M mof N mdy n40 x38 x39 = some r → W p l e (headSpec wsX5_counted ({ frames := 6, cells := 0, slots := 0, locals := 151 })).room s m ([.ref hm, .int a0] : List Value).toArray below meth c s.heap [] 0 0 (MQ below (QSl r) ([.ref hm, .int a0] : List Value).toArray s 0 0 (fun _ => False)) (F0 m 159 ls []) := by
        intro n40
        induction n40 with
        | zero => intro x38 x39 ls hl hf; exact (no_s hf).elim
        | succ n40 ih40 =>
          intro x38 x39 ls hl hf
          rw [f_X5_counted_L159] at hf
          refine lv_iload hx hb dX5_counted_159 (lv_at hl 2 rfl) ?_
          refine lv_aload_n hx hb dX5_counted_161 rfl (lv_at hl 0 rfl) ?_
          refine va_get (D := D) (ci := 4) (v := .int (M 4)) (C := RX5) (T := TX5) (N := 10) hx hb hts inX5_counted_X5 hown hK hP 0 rfl rfl 4 (by decide) (hts (.fieldLink RX5 77 "BondDeskModel" "bonds" "I") (by decide +kernel)) (fun _ h9 => h9) rfl dX5_counted_162 ?_
          refine lv_icmp_ge (tgt := 210) hx hb dX5_counted_165 (by decide) (fun c41 => ?_) (fun c41 => ?_)
          · have hf := it hf c41
            refine lv_lload hx hb dX5_counted_210 (lv_at hl 1 rfl) ?_
            exact W.lret hx hb hr (fun t ht _ => ⟨_, rfl, Option.some.inj hf, ht⟩) (fun q hq => absurd hq List.not_mem_nil) dX5_counted_212
          · have hf := ie hf c41
            refine lv_aload_n hx hb dX5_counted_168 rfl (lv_at hl 0 rfl) ?_
            refine lv_iload hx hb dX5_counted_169 (lv_at hl 2 rfl) ?_
            refine lv_bipush (v := 9) hx hb dX5_counted_171 (by decide) ?_
            obtain ⟨v42, hv42, hf⟩ := ob hf
            refine cSi (W.runV (As := [.int x39, .int 9]) (rest := []) ⟨hx, hb, hml, hown, hts⟩ (m_X5_own l D cI cJ cO hm mh mo my mp M mc mhol mof mdy mpd x39 9 v42 hv42) (cwV 2 hts gX5_counted_X5_own rfl rfl rfl (by decide +kernel) ⟨(Nat.le_of_ble_eq_true rfl), (Nat.le_of_ble_eq_true rfl)⟩) ⟨pw_blind, va_recv hK hP (ci := 4) (q0 := 0) rfl rfl, fun U hU hW => ⟨rfl, pw_at hZ va_S.rf hP hK hU hW (Or.inr rfl) [0, 1, 2, 3, 4] rfl⟩⟩ rfl rfl hl.1 rfl (lv_room (Nat.le_of_ble_eq_true rfl)) dX5_counted_173 ⟨(Nat.le_of_ble_eq_true rfl), (Nat.le_of_ble_eq_true rfl)⟩) ?_
            refine lv_if_le (tgt := 204) hx hb dX5_counted_176 (by decide) (fun c43 => ?_) (fun c43 => ?_)
            · have hf := it hf c43
              obtain ⟨x44, ex44⟩ : ∃ y : Int32, y = x39 + 1 := ⟨_, rfl⟩
              have hf := bd_s hf ex44
              refine lv_iinc (v := x44) (lv' := [(8, .int x44), (0, .ref hm), (6, .long x38)]) hx hb dX5_counted_204 hl (k := 2) rfl (by rw [ex44]; rfl) (by decide) rfl (fun ls hl => ?_)
              refine lv_goto (tgt := 159) hx hb dX5_counted_207 (by decide) ?_
              exact ih40 x38 x44 ls (lv_sub hl [1, 2, 0] rfl) hf
            · have hf := ie hf c43
              refine lv_lload hx hb dX5_counted_179 (lv_at hl 1 rfl) ?_
              refine lv_aload_n hx hb dX5_counted_181 rfl (lv_at hl 0 rfl) ?_
              refine lv_iload hx hb dX5_counted_182 (lv_at hl 2 rfl) ?_
              refine lv_bipush (v := 9) hx hb dX5_counted_184 (by decide) ?_
              obtain ⟨v45, hv45, hf⟩ := ob hf
              refine cSi (W.runV (As := [.int x39, .int 9]) (rest := [.long x38]) ⟨hx, hb, hml, hown, hts⟩ (m_X5_own l D cI cJ cO hm mh mo my mp M mc mhol mof mdy mpd x39 9 v45 hv45) (cwV 2 hts gX5_counted_X5_own rfl rfl rfl (by decide +kernel) ⟨(Nat.le_of_ble_eq_true rfl), (Nat.le_of_ble_eq_true rfl)⟩) ⟨pw_blind, va_recv hK hP (ci := 4) (q0 := 0) rfl rfl, fun U hU hW => ⟨rfl, pw_at hZ va_S.rf hP hK hU hW (Or.inr rfl) [0, 1, 2, 3, 4] rfl⟩⟩ rfl rfl hl.1 rfl (lv_room (Nat.le_of_ble_eq_true rfl)) dX5_counted_186 ⟨(Nat.le_of_ble_eq_true rfl), (Nat.le_of_ble_eq_true rfl)⟩) ?_
              refine lv_i2l hx hb dX5_counted_189 rfl ?_
              refine lv_aload_n hx hb dX5_counted_190 rfl (lv_at hl 0 rfl) ?_
              refine lv_iload hx hb dX5_counted_191 (lv_at hl 2 rfl) ?_
              refine lv_aload_n hx hb dX5_counted_193 rfl (lv_at hl 0 rfl) ?_
              refine va_get (D := D) (ci := 4) (v := .int (M 3)) (C := RX5) (T := TX5) (N := 10) hx hb hts inX5_counted_X5 hown hK hP 0 rfl rfl 3 (by decide) (hts (.fieldLink RX5 24 "BondDeskModel" "rate" "I") (by decide +kernel)) (fun _ h9 => h9) rfl dX5_counted_194 ?_
              obtain ⟨v46, hv46, hf⟩ := ob hf
              refine cSl (W.runV (As := [.int x39, .int (M 3)]) (rest := [.long v45.toInt64, .long x38]) ⟨hx, hb, hml, hown, hts⟩ (m_X5_worthNow l D cI cJ cO hm mh mo my mp M mc mhol mof mdy mpd x39 (M 3) N v46 hv46) (cwV 2 hts gX5_counted_X5_worthNow rfl rfl rfl (by decide +kernel) ⟨(Nat.le_of_ble_eq_true rfl), (Nat.le_of_ble_eq_true rfl)⟩) ⟨pw_blind, va_recv hK hP (ci := 4) (q0 := 0) rfl rfl, fun U hU hW => ⟨rfl, pw_at hZ va_S.rf hP hK hU hW (Or.inr rfl) [0, 1, 2, 3, 4] rfl⟩⟩ rfl rfl hl.1 rfl (lv_room (Nat.le_of_ble_eq_true rfl)) dX5_counted_197 ⟨(Nat.le_of_ble_eq_true rfl), (Nat.le_of_ble_eq_true rfl)⟩) ?_
              refine lv_lmul hx hb dX5_counted_200 ?_
              refine lv_ladd hx hb dX5_counted_201 ?_
              refine lv_topl (fun x47 ex47 => ?_)
              have hf := bd_s hf ex47
              refine lv_lstore (lv' := [(6, .long x47), (0, .ref hm), (8, .int x39)]) hx hb dX5_counted_202 hl (by decide) rfl (fun ls hl => ?_)
              obtain ⟨x48, ex48⟩ : ∃ y : Int32, y = x39 + 1 := ⟨_, rfl⟩
              have hf := bd_s hf ex48
              refine lv_iinc (v := x48) (lv' := [(8, .int x48), (6, .long x47), (0, .ref hm)]) hx hb dX5_counted_204 hl (k := 2) rfl (by rw [ex48]; rfl) (by decide) rfl (fun ls hl => ?_)
              refine lv_goto (tgt := 159) hx hb dX5_counted_207 (by decide) ?_
              exact ih40 x47 x48 ls (lv_sub hl [2, 1, 0] rfl) hf
      exact LP159 N 0 0 ls (lv_sub hl [2, 1, 0] rfl) hf
    have hf := ie hf c37
    have tc17 : ¬ a0.toInt = 0 := ne_ti c17
    have tc19 : ¬ a0.toInt = 1 := ne_ti c19
    have tc20 : ¬ a0.toInt = 2 := ne_ti c20
    have tc21 : ¬ a0.toInt = 3 := ne_ti c21
    have tc22 : ¬ a0.toInt = 4 := ne_ti c22
    have tc23 : ¬ a0.toInt = 5 := ne_ti c23
    have tc24 : ¬ a0.toInt = 6 := ne_ti c24
    have tc25 : ¬ a0.toInt = 7 := ne_ti c25
    have tc28 : ¬ a0.toInt = 8 := ne_ti c28
    have tc31 : ¬ a0.toInt = 9 := ne_ti c31
    have tc34 : ¬ a0.toInt = 10 := ne_ti c34
    have tc37 : ¬ a0.toInt = 11 := ne_ti c37
    refine lv_tableOut (tgt := 213) hx hb dX5_counted_55 (by omega) (by decide) ?_
    refine lv_aload_n hx hb dX5_counted_213 rfl (lv_at hl 0 rfl) ?_
    refine va_get (D := D) (ci := 4) (v := .ref mp) (C := RX5) (T := TX5) (N := 10) hx hb hts inX5_counted_X5 hown hK hP 0 rfl rfl 9 (by decide) (hts (.fieldLink RX5 37 "BondDeskModel" "paid" "[J") (by decide +kernel)) (fun _ h9 => h9) rfl dX5_counted_214 ?_
    refine lv_iload_n hx hb dX5_counted_217 rfl (lv_at hl 1 rfl) ?_
    refine lv_bipush (v := 7) hx hb dX5_counted_218 (by decide) ?_
    refine lv_isub hx hb dX5_counted_220 ?_
    refine lv_topi (fun x49 ex49 => ?_)
    have hf := bd_s hf ex49
    obtain ⟨c50, hf⟩ := gd_s hf
    refine va_lald hx hb hK hP 4 1 rfl rfl c50 dX5_counted_221 ?_
    exact W.lret hx hb hr (fun t ht _ => ⟨_, rfl, Option.some.inj hf, ht⟩) (fun q hq => absurd hq List.not_mem_nil) dX5_counted_222
  have LP8 : ∀ (n7 : Nat) (x1 : Int64) (x2 : Int64) (x3 : Int32) (ls : Array Slot), lv_has ls 9 [(0, .ref hm), (1, .int a0), (2, .long x1), (4, .long x2), (6, .int x3)] → f_X5_counted_L8 M mof K4 n7 x1 x2 x3 = some r → W p l e (headSpec wsX5_counted ({ frames := 6, cells := 0, slots := 0, locals := 151 })).room s m ([.ref hm, .int a0] : List Value).toArray below meth c s.heap [] 0 0 (MQ below (QSl r) ([.ref hm, .int a0] : List Value).toArray s 0 0 (fun _ => False)) (F0 m 8 ls []) := by
    intro n7
    induction n7 with
    | zero => intro x1 x2 x3 ls hl hf; exact (no_s hf).elim
    | succ n7 ih7 =>
      intro x1 x2 x3 ls hl hf
      rw [f_X5_counted_L8] at hf
      refine lv_iload hx hb dX5_counted_8 (lv_at hl 4 rfl) ?_
      refine lv_aload_n hx hb dX5_counted_10 rfl (lv_at hl 0 rfl) ?_
      refine va_get (D := D) (ci := 4) (v := .int (M 4)) (C := RX5) (T := TX5) (N := 10) hx hb hts inX5_counted_X5 hown hK hP 0 rfl rfl 4 (by decide) (hts (.fieldLink RX5 77 "BondDeskModel" "bonds" "I") (by decide +kernel)) (fun _ h9 => h9) rfl dX5_counted_11 ?_
      refine lv_icmp_ge (tgt := 54) hx hb dX5_counted_14 (by decide) (fun c8 => ?_) (fun c8 => ?_)
      · have hf := it hf c8
        exact JK4 x1 x2 ls (lv_sub hl [0, 1, 2, 3] rfl) hf
      · have hf := ie hf c8
        refine lv_lload_n hx hb dX5_counted_17 rfl (lv_at hl 2 rfl) ?_
        refine lv_aload_n hx hb dX5_counted_18 rfl (lv_at hl 0 rfl) ?_
        refine lv_iload hx hb dX5_counted_19 (lv_at hl 4 rfl) ?_
        obtain ⟨v9, hv9, hf⟩ := ob hf
        refine cSz (W.runV (As := [.int x3]) (rest := [.long x1]) ⟨hx, hb, hml, hown, hts⟩ (m_X5_isThere l D cI cJ cO hm mh mo my mp M mc mhol mof mdy mpd x3 v9 hv9) (cwV 1 hts gX5_counted_X5_isThere rfl rfl rfl (by decide +kernel) ⟨(Nat.le_of_ble_eq_true rfl), (Nat.le_of_ble_eq_true rfl)⟩) ⟨pw_blind, va_recv hK hP (ci := 4) (q0 := 0) rfl rfl, fun U hU hW => ⟨rfl, pw_at hZ va_S.rf hP hK hU hW (Or.inr rfl) [0, 1, 2, 3, 4] rfl⟩⟩ rfl rfl hl.1 rfl (lv_room (Nat.le_of_ble_eq_true rfl)) dX5_counted_21 ⟨(Nat.le_of_ble_eq_true rfl), (Nat.le_of_ble_eq_true rfl)⟩) (fun zv9 => ?_)
        obtain ⟨K10, hK10, hf⟩ := jn_s hf
        have JK10 : ∀ (x11 : Int64) (ls : Array Slot), lv_has ls 9 [(0, .ref hm), (1, .int a0), (4, .long x2), (6, .int x3)] → K10 x11 = some r → W p l e (headSpec wsX5_counted ({ frames := 6, cells := 0, slots := 0, locals := 151 })).room s m ([.ref hm, .int a0] : List Value).toArray below meth c s.heap [] 0 0 (MQ below (QSl r) ([.ref hm, .int a0] : List Value).toArray s 0 0 (fun _ => False)) (F0 m 32 ls [.long x11, .long x1]) := by
          intro x11 ls hl hf
          rw [hK10] at hf
          refine lv_ladd hx hb dX5_counted_32 ?_
          refine lv_topl (fun x12 ex12 => ?_)
          have hf := bd_s hf ex12
          refine lv_lstore_n (lv' := [(2, .long x12), (0, .ref hm), (1, .int a0), (4, .long x2), (6, .int x3)]) hx hb dX5_counted_33 rfl hl (by decide) rfl (fun ls hl => ?_)
          refine lv_lload hx hb dX5_counted_34 (lv_at hl 3 rfl) ?_
          refine lv_aload_n hx hb dX5_counted_36 rfl (lv_at hl 1 rfl) ?_
          refine lv_iload hx hb dX5_counted_37 (lv_at hl 4 rfl) ?_
          refine lv_bipush (v := 9) hx hb dX5_counted_39 (by decide) ?_
          obtain ⟨v13, hv13, hf⟩ := ob hf
          refine cSi (W.runV (As := [.int x3, .int 9]) (rest := [.long x2]) ⟨hx, hb, hml, hown, hts⟩ (m_X5_own l D cI cJ cO hm mh mo my mp M mc mhol mof mdy mpd x3 9 v13 hv13) (cwV 2 hts gX5_counted_X5_own rfl rfl rfl (by decide +kernel) ⟨(Nat.le_of_ble_eq_true rfl), (Nat.le_of_ble_eq_true rfl)⟩) ⟨pw_blind, va_recv hK hP (ci := 4) (q0 := 0) rfl rfl, fun U hU hW => ⟨rfl, pw_at hZ va_S.rf hP hK hU hW (Or.inr rfl) [0, 1, 2, 3, 4] rfl⟩⟩ rfl rfl hl.1 rfl (lv_room (Nat.le_of_ble_eq_true rfl)) dX5_counted_41 ⟨(Nat.le_of_ble_eq_true rfl), (Nat.le_of_ble_eq_true rfl)⟩) ?_
          refine lv_i2l hx hb dX5_counted_44 rfl ?_
          refine lv_ladd hx hb dX5_counted_45 ?_
          refine lv_topl (fun x14 ex14 => ?_)
          have hf := bd_s hf ex14
          refine lv_lstore (lv' := [(4, .long x14), (2, .long x12), (0, .ref hm), (1, .int a0), (6, .int x3)]) hx hb dX5_counted_46 hl (by decide) rfl (fun ls hl => ?_)
          obtain ⟨x15, ex15⟩ : ∃ y : Int32, y = x3 + 1 := ⟨_, rfl⟩
          have hf := bd_s hf ex15
          refine lv_iinc (v := x15) (lv' := [(6, .int x15), (4, .long x14), (2, .long x12), (0, .ref hm), (1, .int a0)]) hx hb dX5_counted_48 hl (k := 4) rfl (by rw [ex15]; rfl) (by decide) rfl (fun ls hl => ?_)
          refine lv_goto (tgt := 8) hx hb dX5_counted_51 (by decide) ?_
          exact ih7 x12 x14 x15 ls (lv_sub hl [3, 4, 2, 1, 0] rfl) hf
        refine lv_if_eq (tgt := 31) hx hb dX5_counted_24 (by decide) (fun c16 => ?_) (fun c16 => ?_)
        · have hf := it hf c16
          refine lv_lconst (v := 0) hx hb dX5_counted_31 (by decide) ?_
          exact JK10 0 ls (lv_sub hl [0, 1, 3, 4] rfl) hf
        · have hf := ie hf c16
          refine lv_lconst (v := 1) hx hb dX5_counted_27 (by decide) ?_
          refine lv_goto (tgt := 32) hx hb dX5_counted_28 (by decide) ?_
          exact JK10 1 ls (lv_sub hl [0, 1, 3, 4] rfl) hf
  exact LP8 N 0 0 0 ls (lv_sub hl [3, 4, 2, 1, 0] rfl) hf
