theorem inX2_all_X2 : ∀ w ∈ wsX20, w ∈ wsX2_all := by decide +kernel
set_option maxHeartbeats 4000000 in
set_option maxRecDepth 100000 in
theorem m_X2_all (l : Launch) (D : va_G) (cI cJ cO : ClassId) (ah : Nat) (ql : Nat) (LG : Nat → Int64) (r : Int64) (hf : f_X2_all LG = some r) : Met l yX2_all wsX2_all ({ frames := 0, cells := 0, slots := 0, locals := 0 }) (va_Pc [.ref ql] (pw D (ty3 cI cJ cO) none [eL ql LG])) (QSl r) 0 0 (fun _ => False) := by
  refine Met.ofW (cc := cX2_all) (maxL := 1) (ret := (some .long)) (by decide) rfl ?_
  intro p e s m args below meth c s₁ Bd hml hv
  obtain ⟨rfl, hZ, hP, hK⟩ := hv
  have hx := Bd.exec
  have hb := Bd.bytes
  have hr := Bd.returns
  have hts := atoms_spec (ws := wsX2_all) Bd.pre
  have hown : s.vm.findClass RX2 = some m.cls := findClass_of_methodNamed Bd.named
  have hlocks := Bd.notSynchronized
  have hl := lv_entry ([.ref ql]) (n := 1) (Nat.le_of_ble_eq_true rfl)
  rw [lg_entry_eq]
  generalize (lg_sl ([.ref ql]) ++ List.replicate (1 - (lg_sl ([.ref ql])).length) Slot.unset).toArray = ls at hl ⊢
  have hl : lv_has ls 1 [(0, .ref ql)] := hl
  unfold f_X2_all at hf
  refine lv_aload_n hx hb dX2_all_0 rfl (lv_at hl 0 rfl) ?_
  refine va_get (D := D) (ci := 1) (v := .long (LG 0)) (C := RX2) (T := TX2) (N := 4) hx hb hts inX2_all_X2 hown hK hP 0 rfl rfl 0 (by decide) (hts (.fieldLink RX2 7 "BondDesk$Ledger" "coupons" "J") (by decide +kernel)) (fun _ h9 => h9) rfl dX2_all_1 ?_
  refine lv_aload_n hx hb dX2_all_4 rfl (lv_at hl 0 rfl) ?_
  refine va_get (D := D) (ci := 1) (v := .long (LG 1)) (C := RX2) (T := TX2) (N := 4) hx hb hts inX2_all_X2 hown hK hP 0 rfl rfl 1 (by decide) (hts (.fieldLink RX2 13 "BondDesk$Ledger" "sinking" "J") (by decide +kernel)) (fun _ h9 => h9) rfl dX2_all_5 ?_
  refine lv_ladd hx hb dX2_all_8 ?_
  refine lv_aload_n hx hb dX2_all_9 rfl (lv_at hl 0 rfl) ?_
  refine va_get (D := D) (ci := 1) (v := .long (LG 2)) (C := RX2) (T := TX2) (N := 4) hx hb hts inX2_all_X2 hown hK hP 0 rfl rfl 2 (by decide) (hts (.fieldLink RX2 16 "BondDesk$Ledger" "calls" "J") (by decide +kernel)) (fun _ h9 => h9) rfl dX2_all_10 ?_
  refine lv_ladd hx hb dX2_all_13 ?_
  refine lv_aload_n hx hb dX2_all_14 rfl (lv_at hl 0 rfl) ?_
  refine va_get (D := D) (ci := 1) (v := .long (LG 3)) (C := RX2) (T := TX2) (N := 4) hx hb hts inX2_all_X2 hown hK hP 0 rfl rfl 3 (by decide) (hts (.fieldLink RX2 19 "BondDesk$Ledger" "ends" "J") (by decide +kernel)) (fun _ h9 => h9) rfl dX2_all_15 ?_
  refine lv_ladd hx hb dX2_all_18 ?_
  exact W.lret hx hb hr (fun t ht _ => ⟨_, rfl, Option.some.inj hf, ht⟩) (fun q hq => absurd hq List.not_mem_nil) dX2_all_19
theorem inX0_leave_X0 : ∀ w ∈ wsX00, w ∈ wsX0_leave := by decide +kernel
set_option maxHeartbeats 4000000 in
set_option maxRecDepth 100000 in
theorem m_X0_leave (l : Launch) (D : va_G) (cI cJ cO : ClassId) (ah : Nat) (ht : Nat) (hs : Nat) (B : Nat → Int32) (sz : Nat) (a0 : Int32) (r : (Nat → Int32)) (hf : f_X0_leave B a0 = some r) : Met l yX0_leave wsX0_leave ({ frames := 0, cells := 0, slots := 0, locals := 0 }) (va_Pc [.ref ht, .int a0] (mP D (ty3 cI cJ cO) none [eB ht hs B] sz)) (mQv D (va_A [eB ht hs B] sz) [eB ht hs r]) 0 0 (va_A [eB ht hs B] sz) := by
  refine Met.ofW (cc := cX0_leave) (maxL := 2) (ret := none) (by decide) rfl ?_
  intro p e s m args below meth c s₁ Bd hml hv
  obtain ⟨rfl, hsz, hZ, hP, hK, hD0⟩ := hv
  have hx := Bd.exec
  have hb := Bd.bytes
  have hr := Bd.returns
  have hts := atoms_spec (ws := wsX0_leave) Bd.pre
  have hown : s.vm.findClass RX0 = some m.cls := findClass_of_methodNamed Bd.named
  have hlocks := Bd.notSynchronized
  subst hsz
  have hD := hD0.self (sz := s.heap.size)
  generalize hAe : va_A [eB ht hs B] s.heap.size = A at hD hZ ⊢
  have hA : ∀ q : Nat, s.heap.size ≤ q → A q := fun q h => by rw [← hAe]; exact Or.inr h
  have hS : va_S A s.heap s.heap [] := va_S.rf
  have hl := lv_entry ([.ref ht, .int a0]) (n := 2) (Nat.le_of_ble_eq_true rfl)
  rw [lg_entry_eq]
  generalize (lg_sl ([.ref ht, .int a0]) ++ List.replicate (2 - (lg_sl ([.ref ht, .int a0])).length) Slot.unset).toArray = ls at hl ⊢
  have hl : lv_has ls 2 [(0, .ref ht), (1, .int a0)] := hl
  unfold f_X0_leave at hf
  refine lv_aload_n hx hb dX0_leave_0 rfl (lv_at hl 0 rfl) ?_
  refine lv_iload_n hx hb dX0_leave_1 rfl (lv_at hl 1 rfl) ?_
  refine va_put (D := D) (ci := 0) (v := .int a0) (ty := .int) (C := RX0) (T := TX0) (N := 9) hx hb hts inX0_leave_X0 tyX0 tyX0_ok nmX0 hown hK hP hD hS 0 rfl rfl 2 (by decide) (hts (.fieldLink RX0 28 "BondDesk$Bond" "state" "I") (by decide +kernel)) (fun _ h9 => h9) rfl (by decide +kernel) rfl rfl (Nat.le_of_ble_eq_true rfl) dX0_leave_2 (fun H locs hP hD hS => ?_)
  have hP : va_P D vwCl [eB ht hs (va_up B 2 a0)] H := hP
  have hD : va_D A [eB ht hs (va_up B 2 a0)] := hD
  refine lv_aload_n hx hb dX0_leave_5 rfl (lv_at hl 0 rfl) ?_
  refine lv_iconst (v := 0) hx hb dX0_leave_6 (by decide) ?_
  refine va_put (D := D) (ci := 0) (v := .int 0) (ty := .int) (C := RX0) (T := TX0) (N := 9) hx hb hts inX0_leave_X0 tyX0 tyX0_ok nmX0 hown hK hP hD hS 0 rfl rfl 4 (by decide) (hts (.fieldLink RX0 147 "BondDesk$Bond" "pieces" "I") (by decide +kernel)) (fun _ h9 => h9) rfl (by decide +kernel) rfl rfl (Nat.le_of_ble_eq_true rfl) dX0_leave_7 (fun H locs hP hD hS => ?_)
  have hP : va_P D vwCl [eB ht hs (va_up (va_up B 2 a0) 4 (0 : Int32))] H := hP
  have hD : va_D A [eB ht hs (va_up (va_up B 2 a0) 4 (0 : Int32))] := hD
  refine W.widen (k := 0) (n := 0) (Nat.le_of_ble_eq_true rfl) (Nat.le_of_ble_eq_true rfl) ?_
  have e9 := Option.some.inj hf
  subst e9
  exact W.vret hx hb hr (fun t ht hW => ⟨⟨(), rfl, trivial, by rw [ht]; exact hP, hD⟩, hS.F ht⟩) hS.2.2 dX0_leave_10
theorem inX0_lookAt_X0 : ∀ w ∈ wsX00, w ∈ wsX0_lookAt := by decide +kernel
theorem inX0_lookAt_X2 : ∀ w ∈ wsX20, w ∈ wsX0_lookAt := by decide +kernel
theorem inX0_lookAt_X3 : ∀ w ∈ wsX30, w ∈ wsX0_lookAt := by decide +kernel
set_option maxHeartbeats 4000000 in
set_option maxRecDepth 100000 in
theorem m_X0_lookAt (l : Launch) (D : va_G) (cI cJ cO : ClassId) (ah : Nat) (ht : Nat) (hs : Nat) (hd : Nat) (ql : Nat) (B : Nat → Int32) (S : Nat → Int32) (T : Nat → Int64) (n : Nat) (ds : Nat → Int32) (LG : Nat → Int64) (sz : Nat) (a0 : Int32) (a1 : Int32) (N : Nat) (r : (Nat → Int32) × (Nat → Int64)) (hf : f_X0_lookAt N B S T n ds LG a0 a1 = some r) : Met l yX0_lookAt wsX0_lookAt ({ frames := 4, cells := 0, slots := 0, locals := 91 }) (va_Pc [.ref ht, .int a0, .int a1, .ref ql] (mP D (ty3 cI cJ cO) (some ah) [eD cI hd n ds, eS hs hd S T, eB ht hs B, eL ql LG] sz)) (mQv D (va_A [eD cI hd n ds, eS hs hd S T, eB ht hs B, eL ql LG] sz) [eD cI hd n ds, eS hs hd S T, eB ht hs r.1, eL ql r.2]) 0 0 (va_A [eD cI hd n ds, eS hs hd S T, eB ht hs B, eL ql LG] sz) := by
  refine Met.ofW (cc := cX0_lookAt) (maxL := 5) (ret := none) (by decide) rfl ?_
  intro p e s m args below meth c s₁ Bd hml hv
  obtain ⟨rfl, hsz, hZ, hP, hK, hD0⟩ := hv
  have hx := Bd.exec
  have hb := Bd.bytes
  have hr := Bd.returns
  have hts := atoms_spec (ws := wsX0_lookAt) Bd.pre
  have hown : s.vm.findClass RX0 = some m.cls := findClass_of_methodNamed Bd.named
  have hlocks := Bd.notSynchronized
  subst hsz
  have hD := hD0.self (sz := s.heap.size)
  generalize hAe : va_A [eD cI hd n ds, eS hs hd S T, eB ht hs B, eL ql LG] s.heap.size = A at hD hZ ⊢
  have hA : ∀ q : Nat, s.heap.size ≤ q → A q := fun q h => by rw [← hAe]; exact Or.inr h
  have hS : va_S A s.heap s.heap [] := va_S.rf
  have hl := lv_entry ([.ref ht, .int a0, .int a1, .ref ql]) (n := 5) (Nat.le_of_ble_eq_true rfl)
  rw [lg_entry_eq]
  generalize (lg_sl ([.ref ht, .int a0, .int a1, .ref ql]) ++ List.replicate (5 - (lg_sl ([.ref ht, .int a0, .int a1, .ref ql])).length) Slot.unset).toArray = ls at hl ⊢
  have hl : lv_has ls 5 [(0, .ref ht), (1, .int a0), (2, .int a1), (3, .ref ql)] := hl
  unfold f_X0_lookAt at hf
  refine lv_aload_n hx hb dX0_lookAt_0 rfl (lv_at hl 3 rfl) ?_
  refine lv_dup hx hb dX0_lookAt_1 rfl ?_
  refine va_get (D := D) (ci := 1) (v := .long (LG 0)) (C := RX2) (T := TX2) (N := 4) hx hb hts inX0_lookAt_X2 hown hK hP 3 rfl rfl 0 (by decide) (hts (.fieldLink RX0 141 "BondDesk$Ledger" "coupons" "J") (by decide +kernel)) (fun _ h9 => h9) rfl dX0_lookAt_2 ?_
  refine lv_aload_n hx hb dX0_lookAt_5 rfl (lv_at hl 0 rfl) ?_
  refine va_get (D := D) (ci := 0) (v := .int (B 4)) (C := RX0) (T := TX0) (N := 9) hx hb hts inX0_lookAt_X0 hown hK hP 2 rfl rfl 4 (by decide) (hts (.fieldLink RX0 147 "BondDesk$Bond" "pieces" "I") (by decide +kernel)) (fun _ h9 => h9) rfl dX0_lookAt_6 ?_
  refine lv_i2l hx hb dX0_lookAt_9 rfl ?_
  refine lv_aload_n hx hb dX0_lookAt_10 rfl (lv_at hl 0 rfl) ?_
  refine va_get (D := D) (ci := 0) (v := .ref hs) (C := RX0) (T := TX0) (N := 9) hx hb hts inX0_lookAt_X0 hown hK hP 2 rfl rfl 0 (by decide) (hts (.fieldLink RX0 9 "BondDesk$Bond" "schedule" "LBondDesk$Schedule;") (by decide +kernel)) (fun _ h9 => h9) rfl dX0_lookAt_11 ?_
  refine lv_iload_n hx hb dX0_lookAt_14 rfl (lv_at hl 1 rfl) ?_
  refine lv_aload_n hx hb dX0_lookAt_15 rfl (lv_at hl 0 rfl) ?_
  obtain ⟨v1, hv1, hf⟩ := ob hf
  refine cSl (W.runV (As := []) (rest := [.int a0, .ref hs, .long ((B 4).toInt64), .long (LG 0), .ref ql]) ⟨hx, hb, hml, hown, hts⟩ (m_X0_face l D cI cJ cO ah ht hs hd B S T n ds v1 hv1) (cwV 0 hts gX0_lookAt_X0_face rfl rfl rfl (by decide +kernel) ⟨(Nat.le_of_ble_eq_true rfl), (Nat.le_of_ble_eq_true rfl)⟩) ⟨pw_blind, va_recv hK hP (ci := 0) (q0 := 2) rfl rfl, fun U hU hW => ⟨rfl, pw_at hZ hS hP hK hU hW (Or.inr rfl) [0, 1, 2] rfl⟩⟩ rfl rfl hl.1 rfl (lv_room (Nat.le_of_ble_eq_true rfl)) dX0_lookAt_16 ⟨(Nat.le_of_ble_eq_true rfl), (Nat.le_of_ble_eq_true rfl)⟩) ?_
  obtain ⟨v2, hv2, hf⟩ := ob hf
  refine cSl (W.runV (As := [.int a0, .long v1]) (rest := [.long ((B 4).toInt64), .long (LG 0), .ref ql]) ⟨hx, hb, hml, hown, hts⟩ (m_X3_couponFor l D cI cJ cO ah hs hd S T n ds a0 v1 v2 hv2) (cwV 2 hts gX0_lookAt_X3_couponFor rfl rfl rfl (by decide +kernel) ⟨(Nat.le_of_ble_eq_true rfl), (Nat.le_of_ble_eq_true rfl)⟩) ⟨pw_blind, va_recv hK hP (ci := 2) (q0 := 1) rfl rfl, fun U hU hW => ⟨rfl, pw_at hZ hS hP hK hU hW (Or.inr rfl) [0, 1] rfl⟩⟩ rfl rfl hl.1 rfl (lv_room (Nat.le_of_ble_eq_true rfl)) dX0_lookAt_19 ⟨(Nat.le_of_ble_eq_true rfl), (Nat.le_of_ble_eq_true rfl)⟩) ?_
  refine lv_lmul hx hb dX0_lookAt_22 ?_
  refine lv_ladd hx hb dX0_lookAt_23 ?_
  refine lv_topl (fun x3 ex3 => ?_)
  have hf := bd_s hf ex3
  refine va_put (D := D) (ci := 1) (v := .long x3) (ty := .long) (C := RX2) (T := TX2) (N := 4) hx hb hts inX0_lookAt_X2 tyX2 tyX2_ok nmX2 hown hK hP hD hS 3 rfl rfl 0 (by decide) (hts (.fieldLink RX0 141 "BondDesk$Ledger" "coupons" "J") (by decide +kernel)) (fun _ h9 => h9) rfl (by decide +kernel) rfl rfl (Nat.le_of_ble_eq_true rfl) dX0_lookAt_24 (fun H locs hP hD hS => ?_)
  have hP : va_P D vwCl [eD cI hd n ds, eS hs hd S T, eB ht hs B, eL ql (va_up LG 0 x3)] H := hP
  have hD : va_D A [eD cI hd n ds, eS hs hd S T, eB ht hs B, eL ql (va_up LG 0 x3)] := hD
  refine lv_aload_n hx hb dX0_lookAt_27 rfl (lv_at hl 0 rfl) ?_
  refine lv_iload_n hx hb dX0_lookAt_28 rfl (lv_at hl 1 rfl) ?_
  refine lv_iconst (v := 1) hx hb dX0_lookAt_29 (by decide) ?_
  refine lv_iadd hx hb dX0_lookAt_30 ?_
  refine lv_topi (fun x4 ex4 => ?_)
  have hf := bd_s hf ex4
  refine va_put (D := D) (ci := 0) (v := .int x4) (ty := .int) (C := RX0) (T := TX0) (N := 9) hx hb hts inX0_lookAt_X0 tyX0 tyX0_ok nmX0 hown hK hP hD hS 2 rfl rfl 3 (by decide) (hts (.fieldLink RX0 25 "BondDesk$Bond" "next" "I") (by decide +kernel)) (fun _ h9 => h9) rfl (by decide +kernel) rfl rfl (Nat.le_of_ble_eq_true rfl) dX0_lookAt_31 (fun H locs hP hD hS => ?_)
  have hP : va_P D vwCl [eD cI hd n ds, eS hs hd S T, eB ht hs (va_up B 3 x4), eL ql (va_up LG 0 x3)] H := hP
  have hD : va_D A [eD cI hd n ds, eS hs hd S T, eB ht hs (va_up B 3 x4), eL ql (va_up LG 0 x3)] := hD
  refine lv_aload_n hx hb dX0_lookAt_34 rfl (lv_at hl 0 rfl) ?_
  refine lv_iload_n hx hb dX0_lookAt_35 rfl (lv_at hl 1 rfl) ?_
  obtain ⟨v5, hv5, hf⟩ := ob hf
  refine cSz (W.runV (As := [.int a0]) (rest := []) ⟨hx, hb, hml, hown, hts⟩ (m_X0_isEnd l D cI cJ cO ah ht hs hd (va_up B 3 x4) S T n ds a0 v5 hv5) (cwV 1 hts gX0_lookAt_X0_isEnd rfl rfl rfl (by decide +kernel) ⟨(Nat.le_of_ble_eq_true rfl), (Nat.le_of_ble_eq_true rfl)⟩) ⟨pw_blind, va_recv hK hP (ci := 0) (q0 := 2) rfl rfl, fun U hU hW => ⟨rfl, pw_at hZ hS hP hK hU hW (Or.inr rfl) [0, 1, 2] rfl⟩⟩ rfl rfl hl.1 rfl (lv_room (Nat.le_of_ble_eq_true rfl)) dX0_lookAt_36 ⟨(Nat.le_of_ble_eq_true rfl), (Nat.le_of_ble_eq_true rfl)⟩) (fun zv5 => ?_)
  refine lv_if_eq (tgt := 67) hx hb dX0_lookAt_39 (by decide) (fun c6 => ?_) (fun c6 => ?_)
  · have hf := it hf c6
    refine lv_aload_n hx hb dX0_lookAt_67 rfl (lv_at hl 0 rfl) ?_
    refine lv_iload_n hx hb dX0_lookAt_68 rfl (lv_at hl 1 rfl) ?_
    refine lv_aload_n hx hb dX0_lookAt_69 rfl (lv_at hl 0 rfl) ?_
    refine va_get (D := D) (ci := 0) (v := .int (B 1)) (C := RX0) (T := TX0) (N := 9) hx hb hts inX0_lookAt_X0 hown hK hP 2 rfl rfl 1 (by decide) (hts (.fieldLink RX0 15 "BondDesk$Bond" "factor" "I") (by decide +kernel)) (fun _ h9 => h9) rfl dX0_lookAt_70 ?_
    obtain ⟨v7, hv7, hf⟩ := ob hf
    refine cSi (W.runV (As := [.int a0, .int (B 1)]) (rest := []) ⟨hx, hb, hml, hown, hts⟩ (m_X0_sunkOn l D cI cJ cO ah ht hs hd (va_up B 3 x4) S T n ds a0 (B 1) v7 hv7) (cwV 2 hts gX0_lookAt_X0_sunkOn rfl rfl rfl (by decide +kernel) ⟨(Nat.le_of_ble_eq_true rfl), (Nat.le_of_ble_eq_true rfl)⟩) ⟨pw_blind, va_recv hK hP (ci := 0) (q0 := 2) rfl rfl, fun U hU hW => ⟨rfl, pw_at hZ hS hP hK hU hW (Or.inr rfl) [0, 1, 2] rfl⟩⟩ rfl rfl hl.1 rfl (lv_room (Nat.le_of_ble_eq_true rfl)) dX0_lookAt_73 ⟨(Nat.le_of_ble_eq_true rfl), (Nat.le_of_ble_eq_true rfl)⟩) ?_
    refine lv_istore (lv' := [(4, .int v7), (0, .ref ht), (1, .int a0), (2, .int a1), (3, .ref ql)]) hx hb dX0_lookAt_76 hl (by decide) rfl (fun ls hl => ?_)
    refine lv_aload_n hx hb dX0_lookAt_78 rfl (lv_at hl 4 rfl) ?_
    refine lv_dup hx hb dX0_lookAt_79 rfl ?_
    refine va_get (D := D) (ci := 1) (v := .long (LG 1)) (C := RX2) (T := TX2) (N := 4) hx hb hts inX0_lookAt_X2 hown hK hP 3 rfl rfl 1 (by decide) (hts (.fieldLink RX0 157 "BondDesk$Ledger" "sinking" "J") (by decide +kernel)) (fun _ h9 => h9) rfl dX0_lookAt_80 ?_
    refine lv_aload_n hx hb dX0_lookAt_83 rfl (lv_at hl 1 rfl) ?_
    refine va_get (D := D) (ci := 0) (v := .int (B 4)) (C := RX0) (T := TX0) (N := 9) hx hb hts inX0_lookAt_X0 hown hK hP 2 rfl rfl 4 (by decide) (hts (.fieldLink RX0 147 "BondDesk$Bond" "pieces" "I") (by decide +kernel)) (fun _ h9 => h9) rfl dX0_lookAt_84 ?_
    refine lv_i2l hx hb dX0_lookAt_87 rfl ?_
    refine lv_iload hx hb dX0_lookAt_88 (lv_at hl 0 rfl) ?_
    obtain ⟨v8, hv8, hf⟩ := ob hf
    refine cSl (W.runS (As := [.int v7]) (rest := [.long ((B 4).toInt64), .long (LG 1), .ref ql]) ⟨hx, hb, hml, hown, hts⟩ (m_X0_faceOf l D cI cJ cO ah v7 v8 hv8) (va_cwS 1 hts gX0_lookAt_X0_faceOf rfl rfl rfl (by decide +kernel) ⟨(Nat.le_of_ble_eq_true rfl), (Nat.le_of_ble_eq_true rfl)⟩) ⟨pw_blind, fun U hU hW => ⟨rfl, pw_at hZ hS hP hK hU hW (Or.inr rfl) [] rfl⟩⟩ rfl rfl hl.1 rfl (lv_room (Nat.le_of_ble_eq_true rfl)) dX0_lookAt_90 ⟨(Nat.le_of_ble_eq_true rfl), (Nat.le_of_ble_eq_true rfl)⟩) ?_
    refine lv_lmul hx hb dX0_lookAt_93 ?_
    refine lv_ladd hx hb dX0_lookAt_94 ?_
    refine lv_topl (fun x9 ex9 => ?_)
    have hf := bd_s hf ex9
    refine va_put (D := D) (ci := 1) (v := .long x9) (ty := .long) (C := RX2) (T := TX2) (N := 4) hx hb hts inX0_lookAt_X2 tyX2 tyX2_ok nmX2 hown hK hP hD hS 3 rfl rfl 1 (by decide) (hts (.fieldLink RX0 157 "BondDesk$Ledger" "sinking" "J") (by decide +kernel)) (fun _ h9 => h9) rfl (by decide +kernel) rfl rfl (Nat.le_of_ble_eq_true rfl) dX0_lookAt_95 (fun H locs hP hD hS => ?_)
    have hP : va_P D vwCl [eD cI hd n ds, eS hs hd S T, eB ht hs (va_up B 3 x4), eL ql (va_up (va_up LG 0 x3) 1 x9)] H := hP
    have hD : va_D A [eD cI hd n ds, eS hs hd S T, eB ht hs (va_up B 3 x4), eL ql (va_up (va_up LG 0 x3) 1 x9)] := hD
    refine lv_aload_n hx hb dX0_lookAt_98 rfl (lv_at hl 1 rfl) ?_
    refine lv_dup hx hb dX0_lookAt_99 rfl ?_
    refine va_get (D := D) (ci := 0) (v := .int (B 1)) (C := RX0) (T := TX0) (N := 9) hx hb hts inX0_lookAt_X0 hown hK hP 2 rfl rfl 1 (by decide) (hts (.fieldLink RX0 15 "BondDesk$Bond" "factor" "I") (by decide +kernel)) (fun _ h9 => h9) rfl dX0_lookAt_100 ?_
    refine lv_iload hx hb dX0_lookAt_103 (lv_at hl 0 rfl) ?_
    refine lv_isub hx hb dX0_lookAt_105 ?_
    refine lv_topi (fun x10 ex10 => ?_)
    have hf := bd_s hf ex10
    refine va_put (D := D) (ci := 0) (v := .int x10) (ty := .int) (C := RX0) (T := TX0) (N := 9) hx hb hts inX0_lookAt_X0 tyX0 tyX0_ok nmX0 hown hK hP hD hS 2 rfl rfl 1 (by decide) (hts (.fieldLink RX0 15 "BondDesk$Bond" "factor" "I") (by decide +kernel)) (fun _ h9 => h9) rfl (by decide +kernel) rfl rfl (Nat.le_of_ble_eq_true rfl) dX0_lookAt_106 (fun H locs hP hD hS => ?_)
    have hP : va_P D vwCl [eD cI hd n ds, eS hs hd S T, eB ht hs (va_up (va_up B 3 x4) 1 x10), eL ql (va_up (va_up LG 0 x3) 1 x9)] H := hP
    have hD : va_D A [eD cI hd n ds, eS hs hd S T, eB ht hs (va_up (va_up B 3 x4) 1 x10), eL ql (va_up (va_up LG 0 x3) 1 x9)] := hD
    refine lv_aload_n hx hb dX0_lookAt_109 rfl (lv_at hl 1 rfl) ?_
    refine va_get (D := D) (ci := 0) (v := .int x10) (C := RX0) (T := TX0) (N := 9) hx hb hts inX0_lookAt_X0 hown hK hP 2 rfl rfl 1 (by decide) (hts (.fieldLink RX0 15 "BondDesk$Bond" "factor" "I") (by decide +kernel)) (fun _ h9 => h9) rfl dX0_lookAt_110 ?_
    refine lv_if_ne (tgt := 124) hx hb dX0_lookAt_113 (by decide) (fun c11 => ?_) (fun c11 => ?_)
    · have hf := ie hf c11
      refine lv_aload_n hx hb dX0_lookAt_124 rfl (lv_at hl 1 rfl) ?_
      refine lv_iload_n hx hb dX0_lookAt_125 rfl (lv_at hl 2 rfl) ?_
      obtain ⟨v12, hv12, hf⟩ := ob hf
      refine cSz (W.runV (As := [.int a0]) (rest := []) ⟨hx, hb, hml, hown, hts⟩ (m_X0_isCallDate l D cI cJ cO ah ht hs hd (va_up (va_up B 3 x4) 1 x10) S T n ds a0 v12 hv12) (cwV 1 hts gX0_lookAt_X0_isCallDate rfl rfl rfl (by decide +kernel) ⟨(Nat.le_of_ble_eq_true rfl), (Nat.le_of_ble_eq_true rfl)⟩) ⟨pw_blind, va_recv hK hP (ci := 0) (q0 := 2) rfl rfl, fun U hU hW => ⟨rfl, pw_at hZ hS hP hK hU hW (Or.inr rfl) [0, 1, 2] rfl⟩⟩ rfl rfl hl.1 rfl (lv_room (Nat.le_of_ble_eq_true rfl)) dX0_lookAt_126 ⟨(Nat.le_of_ble_eq_true rfl), (Nat.le_of_ble_eq_true rfl)⟩) (fun zv12 => ?_)
      refine lv_if_eq (tgt := 190) hx hb dX0_lookAt_129 (by decide) (fun c13 => ?_) (fun c13 => ?_)
      · have hf := it hf c13
        refine W.widen (k := 0) (n := 0) (Nat.le_of_ble_eq_true rfl) (Nat.le_of_ble_eq_true rfl) ?_
        have e9 := Option.some.inj hf
        subst e9
        exact W.vret hx hb hr (fun t ht hW => ⟨⟨(), rfl, trivial, by rw [ht]; exact hP, hD⟩, hS.F ht⟩) hS.2.2 dX0_lookAt_190
      · have hf := ie hf c13
        refine lv_aload_n hx hb dX0_lookAt_132 rfl (lv_at hl 1 rfl) ?_
        refine lv_aload_n hx hb dX0_lookAt_133 rfl (lv_at hl 1 rfl) ?_
        refine va_get (D := D) (ci := 0) (v := .ref hs) (C := RX0) (T := TX0) (N := 9) hx hb hts inX0_lookAt_X0 hown hK hP 2 rfl rfl 0 (by decide) (hts (.fieldLink RX0 9 "BondDesk$Bond" "schedule" "LBondDesk$Schedule;") (by decide +kernel)) (fun _ h9 => h9) rfl dX0_lookAt_134 ?_
        refine va_get (D := D) (ci := 2) (v := .ref hd) (C := RX3) (T := TX3) (N := 9) hx hb hts inX0_lookAt_X3 hown hK hP 1 rfl rfl 6 (by decide) (hts (.fieldLink RX0 66 "BondDesk$Schedule" "dates" "[I") (by decide +kernel)) (fun _ h9 => h9) rfl dX0_lookAt_137 ?_
        refine lv_iload_n hx hb dX0_lookAt_140 rfl (lv_at hl 2 rfl) ?_
        obtain ⟨c14, hf⟩ := gd_s hf
        refine va_iald hx hb hK hP 0 0 rfl rfl c14 dX0_lookAt_141 ?_
        refine lv_aload_n hx hb dX0_lookAt_142 rfl (lv_at hl 1 rfl) ?_
        refine va_get (D := D) (ci := 0) (v := .int x10) (C := RX0) (T := TX0) (N := 9) hx hb hts inX0_lookAt_X0 hown hK hP 2 rfl rfl 1 (by decide) (hts (.fieldLink RX0 15 "BondDesk$Bond" "factor" "I") (by decide +kernel)) (fun _ h9 => h9) rfl dX0_lookAt_143 ?_
        refine lv_iload_n hx hb dX0_lookAt_146 rfl (lv_at hl 3 rfl) ?_
        obtain ⟨v15, hv15, hf⟩ := ob hf
        refine cSl (W.runV (As := [.int (ds a0.toNatClampNeg), .int x10, .int a1]) (rest := []) ⟨hx, hb, hml, hown, hts⟩ (m_X0_worthAt l D cI cJ cO ah ht hs hd (va_up (va_up B 3 x4) 1 x10) S T n ds (ds a0.toNatClampNeg) x10 a1 N v15 hv15) (cwV 3 hts gX0_lookAt_X0_worthAt rfl rfl rfl (by decide +kernel) ⟨(Nat.le_of_ble_eq_true rfl), (Nat.le_of_ble_eq_true rfl)⟩) ⟨pw_blind, va_recv hK hP (ci := 0) (q0 := 2) rfl rfl, fun U hU hW => ⟨rfl, pw_at hZ hS hP hK hU hW (Or.inr rfl) [0, 1, 2] rfl⟩⟩ rfl rfl hl.1 rfl (lv_room (Nat.le_of_ble_eq_true rfl)) dX0_lookAt_147 ⟨(Nat.le_of_ble_eq_true rfl), (Nat.le_of_ble_eq_true rfl)⟩) ?_
        refine lv_aload_n hx hb dX0_lookAt_150 rfl (lv_at hl 1 rfl) ?_
        refine lv_aload_n hx hb dX0_lookAt_151 rfl (lv_at hl 1 rfl) ?_
        refine va_get (D := D) (ci := 0) (v := .int x10) (C := RX0) (T := TX0) (N := 9) hx hb hts inX0_lookAt_X0 hown hK hP 2 rfl rfl 1 (by decide) (hts (.fieldLink RX0 15 "BondDesk$Bond" "factor" "I") (by decide +kernel)) (fun _ h9 => h9) rfl dX0_lookAt_152 ?_
        obtain ⟨v16, hv16, hf⟩ := ob hf
        refine cSl (W.runV (As := [.int x10]) (rest := [.long v15]) ⟨hx, hb, hml, hown, hts⟩ (m_X0_callPayment l D cI cJ cO ah ht hs hd (va_up (va_up B 3 x4) 1 x10) S T n ds x10 v16 hv16) (cwV 1 hts gX0_lookAt_X0_callPayment rfl rfl rfl (by decide +kernel) ⟨(Nat.le_of_ble_eq_true rfl), (Nat.le_of_ble_eq_true rfl)⟩) ⟨pw_blind, va_recv hK hP (ci := 0) (q0 := 2) rfl rfl, fun U hU hW => ⟨rfl, pw_at hZ hS hP hK hU hW (Or.inr rfl) [0, 1, 2] rfl⟩⟩ rfl rfl hl.1 rfl (lv_room (Nat.le_of_ble_eq_true rfl)) dX0_lookAt_155 ⟨(Nat.le_of_ble_eq_true rfl), (Nat.le_of_ble_eq_true rfl)⟩) ?_
        refine W.lcmp hx hb dX0_lookAt_158 ?_
        refine lv_if_le (tgt := 190) hx hb dX0_lookAt_159 (by decide) (fun c17 => ?_) (fun c17 => ?_)
        · have hf := it hf c17
          refine W.widen (k := 0) (n := 0) (Nat.le_of_ble_eq_true rfl) (Nat.le_of_ble_eq_true rfl) ?_
          have e9 := Option.some.inj hf
          subst e9
          exact W.vret hx hb hr (fun t ht hW => ⟨⟨(), rfl, trivial, by rw [ht]; exact hP, hD⟩, hS.F ht⟩) hS.2.2 dX0_lookAt_190
        · have hf := ie hf c17
          refine lv_aload_n hx hb dX0_lookAt_162 rfl (lv_at hl 4 rfl) ?_
          refine lv_dup hx hb dX0_lookAt_163 rfl ?_
          refine va_get (D := D) (ci := 1) (v := .long (LG 2)) (C := RX2) (T := TX2) (N := 4) hx hb hts inX0_lookAt_X2 hown hK hP 3 rfl rfl 2 (by decide) (hts (.fieldLink RX0 160 "BondDesk$Ledger" "calls" "J") (by decide +kernel)) (fun _ h9 => h9) rfl dX0_lookAt_164 ?_
          refine lv_aload_n hx hb dX0_lookAt_167 rfl (lv_at hl 1 rfl) ?_
          refine va_get (D := D) (ci := 0) (v := .int (B 4)) (C := RX0) (T := TX0) (N := 9) hx hb hts inX0_lookAt_X0 hown hK hP 2 rfl rfl 4 (by decide) (hts (.fieldLink RX0 147 "BondDesk$Bond" "pieces" "I") (by decide +kernel)) (fun _ h9 => h9) rfl dX0_lookAt_168 ?_
          refine lv_i2l hx hb dX0_lookAt_171 rfl ?_
          refine lv_aload_n hx hb dX0_lookAt_172 rfl (lv_at hl 1 rfl) ?_
          refine lv_aload_n hx hb dX0_lookAt_173 rfl (lv_at hl 1 rfl) ?_
          refine va_get (D := D) (ci := 0) (v := .int x10) (C := RX0) (T := TX0) (N := 9) hx hb hts inX0_lookAt_X0 hown hK hP 2 rfl rfl 1 (by decide) (hts (.fieldLink RX0 15 "BondDesk$Bond" "factor" "I") (by decide +kernel)) (fun _ h9 => h9) rfl dX0_lookAt_174 ?_
          obtain ⟨v18, hv18, hf⟩ := ob hf
          refine cSl (W.runV (As := [.int x10]) (rest := [.long ((B 4).toInt64), .long (LG 2), .ref ql]) ⟨hx, hb, hml, hown, hts⟩ (m_X0_callPayment l D cI cJ cO ah ht hs hd (va_up (va_up B 3 x4) 1 x10) S T n ds x10 v18 hv18) (cwV 1 hts gX0_lookAt_X0_callPayment rfl rfl rfl (by decide +kernel) ⟨(Nat.le_of_ble_eq_true rfl), (Nat.le_of_ble_eq_true rfl)⟩) ⟨pw_blind, va_recv hK hP (ci := 0) (q0 := 2) rfl rfl, fun U hU hW => ⟨rfl, pw_at hZ hS hP hK hU hW (Or.inr rfl) [0, 1, 2] rfl⟩⟩ rfl rfl hl.1 rfl (lv_room (Nat.le_of_ble_eq_true rfl)) dX0_lookAt_177 ⟨(Nat.le_of_ble_eq_true rfl), (Nat.le_of_ble_eq_true rfl)⟩) ?_
          refine lv_lmul hx hb dX0_lookAt_180 ?_
          refine lv_ladd hx hb dX0_lookAt_181 ?_
          refine lv_topl (fun x19 ex19 => ?_)
          have hf := bd_s hf ex19
          refine va_put (D := D) (ci := 1) (v := .long x19) (ty := .long) (C := RX2) (T := TX2) (N := 4) hx hb hts inX0_lookAt_X2 tyX2 tyX2_ok nmX2 hown hK hP hD hS 3 rfl rfl 2 (by decide) (hts (.fieldLink RX0 160 "BondDesk$Ledger" "calls" "J") (by decide +kernel)) (fun _ h9 => h9) rfl (by decide +kernel) rfl rfl (Nat.le_of_ble_eq_true rfl) dX0_lookAt_182 (fun H locs hP hD hS => ?_)
          have hP : va_P D vwCl [eD cI hd n ds, eS hs hd S T, eB ht hs (va_up (va_up B 3 x4) 1 x10), eL ql (va_up (va_up (va_up LG 0 x3) 1 x9) 2 x19)] H := hP
          have hD : va_D A [eD cI hd n ds, eS hs hd S T, eB ht hs (va_up (va_up B 3 x4) 1 x10), eL ql (va_up (va_up (va_up LG 0 x3) 1 x9) 2 x19)] := hD
          refine lv_aload_n hx hb dX0_lookAt_185 rfl (lv_at hl 1 rfl) ?_
          refine lv_iconst (v := 2) hx hb dX0_lookAt_186 (by decide) ?_
          obtain ⟨v20, hv20, hf⟩ := ob hf
          have hPc := hP.sub (ws' := [eB ht hs (va_up (va_up B 3 x4) 1 x10)]) [2] rfl
          have hDc := hD.sub (ws' := [eB ht hs (va_up (va_up B 3 x4) 1 x10)]) [2] (by decide) rfl
          have hFc := va_free (wc := [eB ht hs (va_up (va_up B 3 x4) 1 x10)]) hD hS hA [2] rfl
          refine va_callv (va_runV (As := [.int 2]) (rest := []) ⟨hx, hb, hml, hown, hts⟩ (m_X0_leave l D cI cJ cO ah ht hs (va_up (va_up B 3 x4) 1 x10) H.size 2 v20 hv20) (cwV 1 hts gX0_lookAt_X0_leave rfl rfl rfl (by decide +kernel) ⟨(Nat.le_of_ble_eq_true rfl), (Nat.le_of_ble_eq_true rfl)⟩) ⟨mp_blind, va_recv hK hP (ci := 0) (q0 := 2) rfl rfl, fun U hU hW => ⟨rfl, mp_at hZ hS hPc hK hDc hFc hU hW (Or.inl rfl)⟩⟩ rfl rfl hl.1 rfl (lv_room (Nat.le_of_ble_eq_true rfl)) dX0_lookAt_187 ⟨(Nat.le_of_ble_eq_true rfl), (Nat.le_of_ble_eq_true rfl)⟩) hS (fun q _ h => hFc q h) hFc (fun u t H1 locs ht9 hvm hw hBx hz1 hk1 hS => ?_)
          obtain ⟨hP1, hD1⟩ := hBx
          rw [ht9] at hP1
          obtain ⟨hP, hD⟩ := va_join (wr := [eD cI hd n ds, eS hs hd S T, eL ql (va_up (va_up (va_up LG 0 x3) 1 x9) 2 x19)]) (w1 := [eB ht hs v20]) hP hD [2] [0, 1, 3] rfl rfl (by decide) (by decide) hk1 hFc hP1 hD1
          have hP := hP.sub (ws' := [eD cI hd n ds, eS hs hd S T, eB ht hs v20, eL ql (va_up (va_up (va_up LG 0 x3) 1 x9) 2 x19)]) [0, 1, 3, 2] rfl
          have hD := hD.sub (ws' := [eD cI hd n ds, eS hs hd S T, eB ht hs v20, eL ql (va_up (va_up (va_up LG 0 x3) 1 x9) 2 x19)]) [0, 1, 3, 2] (by decide) rfl
          generalize H1 = H at hP hS ⊢
          refine W.widen (k := 0) (n := 0) (Nat.le_of_ble_eq_true rfl) (Nat.le_of_ble_eq_true rfl) ?_
          have e9 := Option.some.inj hf
          subst e9
          exact W.vret hx hb hr (fun t ht hW => ⟨⟨(), rfl, trivial, by rw [ht]; exact hP, hD⟩, hS.F ht⟩) hS.2.2 dX0_lookAt_190
    · have hf := it hf c11
      refine lv_aload_n hx hb dX0_lookAt_116 rfl (lv_at hl 1 rfl) ?_
      refine lv_iconst (v := 1) hx hb dX0_lookAt_117 (by decide) ?_
      obtain ⟨v21, hv21, hf⟩ := ob hf
      have hPc := hP.sub (ws' := [eB ht hs (va_up (va_up B 3 x4) 1 x10)]) [2] rfl
      have hDc := hD.sub (ws' := [eB ht hs (va_up (va_up B 3 x4) 1 x10)]) [2] (by decide) rfl
      have hFc := va_free (wc := [eB ht hs (va_up (va_up B 3 x4) 1 x10)]) hD hS hA [2] rfl
      refine va_callv (va_runV (As := [.int 1]) (rest := []) ⟨hx, hb, hml, hown, hts⟩ (m_X0_leave l D cI cJ cO ah ht hs (va_up (va_up B 3 x4) 1 x10) H.size 1 v21 hv21) (cwV 1 hts gX0_lookAt_X0_leave rfl rfl rfl (by decide +kernel) ⟨(Nat.le_of_ble_eq_true rfl), (Nat.le_of_ble_eq_true rfl)⟩) ⟨mp_blind, va_recv hK hP (ci := 0) (q0 := 2) rfl rfl, fun U hU hW => ⟨rfl, mp_at hZ hS hPc hK hDc hFc hU hW (Or.inl rfl)⟩⟩ rfl rfl hl.1 rfl (lv_room (Nat.le_of_ble_eq_true rfl)) dX0_lookAt_118 ⟨(Nat.le_of_ble_eq_true rfl), (Nat.le_of_ble_eq_true rfl)⟩) hS (fun q _ h => hFc q h) hFc (fun u t H1 locs ht9 hvm hw hBx hz1 hk1 hS => ?_)
      obtain ⟨hP1, hD1⟩ := hBx
      rw [ht9] at hP1
      obtain ⟨hP, hD⟩ := va_join (wr := [eD cI hd n ds, eS hs hd S T, eL ql (va_up (va_up LG 0 x3) 1 x9)]) (w1 := [eB ht hs v21]) hP hD [2] [0, 1, 3] rfl rfl (by decide) (by decide) hk1 hFc hP1 hD1
      have hP := hP.sub (ws' := [eD cI hd n ds, eS hs hd S T, eB ht hs v21, eL ql (va_up (va_up LG 0 x3) 1 x9)]) [0, 1, 3, 2] rfl
      have hD := hD.sub (ws' := [eD cI hd n ds, eS hs hd S T, eB ht hs v21, eL ql (va_up (va_up LG 0 x3) 1 x9)]) [0, 1, 3, 2] (by decide) rfl
      generalize H1 = H at hP hS ⊢
      refine lv_goto (tgt := 190) hx hb dX0_lookAt_121 (by decide) ?_
      refine W.widen (k := 0) (n := 0) (Nat.le_of_ble_eq_true rfl) (Nat.le_of_ble_eq_true rfl) ?_
      have e9 := Option.some.inj hf
      subst e9
      exact W.vret hx hb hr (fun t ht hW => ⟨⟨(), rfl, trivial, by rw [ht]; exact hP, hD⟩, hS.F ht⟩) hS.2.2 dX0_lookAt_190
  · have hf := ie hf c6
    refine lv_aload_n hx hb dX0_lookAt_42 rfl (lv_at hl 3 rfl) ?_
    refine lv_dup hx hb dX0_lookAt_43 rfl ?_
    refine va_get (D := D) (ci := 1) (v := .long (LG 3)) (C := RX2) (T := TX2) (N := 4) hx hb hts inX0_lookAt_X2 hown hK hP 3 rfl rfl 3 (by decide) (hts (.fieldLink RX0 150 "BondDesk$Ledger" "ends" "J") (by decide +kernel)) (fun _ h9 => h9) rfl dX0_lookAt_44 ?_
    refine lv_aload_n hx hb dX0_lookAt_47 rfl (lv_at hl 0 rfl) ?_
    refine va_get (D := D) (ci := 0) (v := .int (B 4)) (C := RX0) (T := TX0) (N := 9) hx hb hts inX0_lookAt_X0 hown hK hP 2 rfl rfl 4 (by decide) (hts (.fieldLink RX0 147 "BondDesk$Bond" "pieces" "I") (by decide +kernel)) (fun _ h9 => h9) rfl dX0_lookAt_48 ?_
    refine lv_i2l hx hb dX0_lookAt_51 rfl ?_
    refine lv_aload_n hx hb dX0_lookAt_52 rfl (lv_at hl 0 rfl) ?_
    obtain ⟨v22, hv22, hf⟩ := ob hf
    refine cSl (W.runV (As := []) (rest := [.long ((B 4).toInt64), .long (LG 3), .ref ql]) ⟨hx, hb, hml, hown, hts⟩ (m_X0_face l D cI cJ cO ah ht hs hd (va_up B 3 x4) S T n ds v22 hv22) (cwV 0 hts gX0_lookAt_X0_face rfl rfl rfl (by decide +kernel) ⟨(Nat.le_of_ble_eq_true rfl), (Nat.le_of_ble_eq_true rfl)⟩) ⟨pw_blind, va_recv hK hP (ci := 0) (q0 := 2) rfl rfl, fun U hU hW => ⟨rfl, pw_at hZ hS hP hK hU hW (Or.inr rfl) [0, 1, 2] rfl⟩⟩ rfl rfl hl.1 rfl (lv_room (Nat.le_of_ble_eq_true rfl)) dX0_lookAt_53 ⟨(Nat.le_of_ble_eq_true rfl), (Nat.le_of_ble_eq_true rfl)⟩) ?_
    refine lv_lmul hx hb dX0_lookAt_56 ?_
    refine lv_ladd hx hb dX0_lookAt_57 ?_
    refine lv_topl (fun x23 ex23 => ?_)
    have hf := bd_s hf ex23
    refine va_put (D := D) (ci := 1) (v := .long x23) (ty := .long) (C := RX2) (T := TX2) (N := 4) hx hb hts inX0_lookAt_X2 tyX2 tyX2_ok nmX2 hown hK hP hD hS 3 rfl rfl 3 (by decide) (hts (.fieldLink RX0 150 "BondDesk$Ledger" "ends" "J") (by decide +kernel)) (fun _ h9 => h9) rfl (by decide +kernel) rfl rfl (Nat.le_of_ble_eq_true rfl) dX0_lookAt_58 (fun H locs hP hD hS => ?_)
    have hP : va_P D vwCl [eD cI hd n ds, eS hs hd S T, eB ht hs (va_up B 3 x4), eL ql (va_up (va_up LG 0 x3) 3 x23)] H := hP
    have hD : va_D A [eD cI hd n ds, eS hs hd S T, eB ht hs (va_up B 3 x4), eL ql (va_up (va_up LG 0 x3) 3 x23)] := hD
    refine lv_aload_n hx hb dX0_lookAt_61 rfl (lv_at hl 0 rfl) ?_
    refine lv_iconst (v := 1) hx hb dX0_lookAt_62 (by decide) ?_
    obtain ⟨v24, hv24, hf⟩ := ob hf
    have hPc := hP.sub (ws' := [eB ht hs (va_up B 3 x4)]) [2] rfl
    have hDc := hD.sub (ws' := [eB ht hs (va_up B 3 x4)]) [2] (by decide) rfl
    have hFc := va_free (wc := [eB ht hs (va_up B 3 x4)]) hD hS hA [2] rfl
    refine va_callv (va_runV (As := [.int 1]) (rest := []) ⟨hx, hb, hml, hown, hts⟩ (m_X0_leave l D cI cJ cO ah ht hs (va_up B 3 x4) H.size 1 v24 hv24) (cwV 1 hts gX0_lookAt_X0_leave rfl rfl rfl (by decide +kernel) ⟨(Nat.le_of_ble_eq_true rfl), (Nat.le_of_ble_eq_true rfl)⟩) ⟨mp_blind, va_recv hK hP (ci := 0) (q0 := 2) rfl rfl, fun U hU hW => ⟨rfl, mp_at hZ hS hPc hK hDc hFc hU hW (Or.inl rfl)⟩⟩ rfl rfl hl.1 rfl (lv_room (Nat.le_of_ble_eq_true rfl)) dX0_lookAt_63 ⟨(Nat.le_of_ble_eq_true rfl), (Nat.le_of_ble_eq_true rfl)⟩) hS (fun q _ h => hFc q h) hFc (fun u t H1 locs ht9 hvm hw hBx hz1 hk1 hS => ?_)
    obtain ⟨hP1, hD1⟩ := hBx
    rw [ht9] at hP1
    obtain ⟨hP, hD⟩ := va_join (wr := [eD cI hd n ds, eS hs hd S T, eL ql (va_up (va_up LG 0 x3) 3 x23)]) (w1 := [eB ht hs v24]) hP hD [2] [0, 1, 3] rfl rfl (by decide) (by decide) hk1 hFc hP1 hD1
    have hP := hP.sub (ws' := [eD cI hd n ds, eS hs hd S T, eB ht hs v24, eL ql (va_up (va_up LG 0 x3) 3 x23)]) [0, 1, 3, 2] rfl
    have hD := hD.sub (ws' := [eD cI hd n ds, eS hs hd S T, eB ht hs v24, eL ql (va_up (va_up LG 0 x3) 3 x23)]) [0, 1, 3, 2] (by decide) rfl
    generalize H1 = H at hP hS ⊢
    refine W.widen (k := 0) (n := 0) (Nat.le_of_ble_eq_true rfl) (Nat.le_of_ble_eq_true rfl) ?_
    have e9 := Option.some.inj hf
    subst e9
    exact W.vret hx hb hr (fun t ht hW => ⟨⟨(), rfl, trivial, by rw [ht]; exact hP, hD⟩, hS.F ht⟩) hS.2.2 dX0_lookAt_66
theorem inX0_lookUpTo_X0 : ∀ w ∈ wsX00, w ∈ wsX0_lookUpTo := by decide +kernel
theorem inX0_lookUpTo_X3 : ∀ w ∈ wsX30, w ∈ wsX0_lookUpTo := by decide +kernel
set_option maxHeartbeats 4000000 in
set_option maxRecDepth 100000 in
theorem m_X0_lookUpTo (l : Launch) (D : va_G) (cI cJ cO : ClassId) (ah : Nat) (ht : Nat) (hs : Nat) (hd : Nat) (ql : Nat) (B : Nat → Int32) (S : Nat → Int32) (T : Nat → Int64) (n : Nat) (ds : Nat → Int32) (LG : Nat → Int64) (sz : Nat) (a0 : Int32) (a1 : Int32) (N : Nat) (r : (Nat → Int32) × (Nat → Int64)) (hf : f_X0_lookUpTo N B S T n ds LG a0 a1 = some r) : Met l yX0_lookUpTo wsX0_lookUpTo ({ frames := 5, cells := 0, slots := 0, locals := 115 }) (va_Pc [.ref ht, .int a0, .int a1, .ref ql] (mP D (ty3 cI cJ cO) (some ah) [eD cI hd n ds, eS hs hd S T, eB ht hs B, eL ql LG] sz)) (mQv D (va_A [eD cI hd n ds, eS hs hd S T, eB ht hs B, eL ql LG] sz) [eD cI hd n ds, eS hs hd S T, eB ht hs r.1, eL ql r.2]) 0 0 (va_A [eD cI hd n ds, eS hs hd S T, eB ht hs B, eL ql LG] sz) := by
  refine Met.ofW (cc := cX0_lookUpTo) (maxL := 5) (ret := none) (by decide) rfl ?_
  intro p e s m args below meth c s₁ Bd hml hv
  obtain ⟨rfl, hsz, hZ, hP, hK, hD0⟩ := hv
  have hx := Bd.exec
  have hb := Bd.bytes
  have hr := Bd.returns
  have hts := atoms_spec (ws := wsX0_lookUpTo) Bd.pre
  have hown : s.vm.findClass RX0 = some m.cls := findClass_of_methodNamed Bd.named
  have hlocks := Bd.notSynchronized
  subst hsz
  have hD := hD0.self (sz := s.heap.size)
  generalize hAe : va_A [eD cI hd n ds, eS hs hd S T, eB ht hs B, eL ql LG] s.heap.size = A at hD hZ ⊢
  have hA : ∀ q : Nat, s.heap.size ≤ q → A q := fun q h => by rw [← hAe]; exact Or.inr h
  have hS : va_S A s.heap s.heap [] := va_S.rf
  have hl := lv_entry ([.ref ht, .int a0, .int a1, .ref ql]) (n := 5) (Nat.le_of_ble_eq_true rfl)
  rw [lg_entry_eq]
  generalize (lg_sl ([.ref ht, .int a0, .int a1, .ref ql]) ++ List.replicate (5 - (lg_sl ([.ref ht, .int a0, .int a1, .ref ql])).length) Slot.unset).toArray = ls at hl ⊢
  have hl : lv_has ls 5 [(0, .ref ht), (1, .int a0), (2, .int a1), (3, .ref ql)] := hl
  unfold f_X0_lookUpTo at hf
  refine lv_aload_n hx hb dX0_lookUpTo_0 rfl (lv_at hl 0 rfl) ?_
  refine va_get (D := D) (ci := 0) (v := .int (B 3)) (C := RX0) (T := TX0) (N := 9) hx hb hts inX0_lookUpTo_X0 hown hK hP 2 rfl rfl 3 (by decide) (hts (.fieldLink RX0 25 "BondDesk$Bond" "next" "I") (by decide +kernel)) (fun _ h9 => h9) rfl dX0_lookUpTo_1 ?_
  refine lv_topi (fun x1 ex1 => ?_)
  have hf := bd_s hf ex1
  refine lv_istore (lv' := [(4, .int x1), (0, .ref ht), (1, .int a0), (2, .int a1), (3, .ref ql)]) hx hb dX0_lookUpTo_4 hl (by decide) rfl (fun ls hl => ?_)
  obtain ⟨K5, hK5, hf⟩ := kx_s (P := fun k => f_X0_lookUpTo_L6 n ds a0 N S T a1 k _ N x1 B LG = some r) hf
  obtain ⟨K8, hK8, hf⟩ := kx_s (P := fun k => f_X0_lookUpTo_L6 n ds a0 N S T a1 K5 k N x1 B LG = some r) hf
  have JK5 : ∀ (w6 : Nat → Int32) (w7 : Nat → Int64) (H : Heap) (locs : List Loc), va_P D vwCl [eD cI hd n ds, eS hs hd S T, eB ht hs w6, eL ql w7] H → va_D A [eD cI hd n ds, eS hs hd S T, eB ht hs w6, eL ql w7] → va_S A s.heap H locs → ∀ (ls : Array Slot), lv_has ls 5 [] → K5 w6 w7 = some r → W p l e (headSpec wsX0_lookUpTo ({ frames := 5, cells := 0, slots := 0, locals := 115 })).room s m ([.ref ht, .int a0, .int a1, .ref ql] : List Value).toArray below meth c H locs 0 0 (MQ below (mQv D A [eD cI hd n ds, eS hs hd S T, eB ht hs r.1, eL ql r.2]) ([.ref ht, .int a0, .int a1, .ref ql] : List Value).toArray s 0 0 A) (F0 m 45 ls []) := by
    intro w6 w7 H locs hP hD hS ls hl hf
    rw [hK5] at hf
    refine W.widen (k := 0) (n := 0) (Nat.le_of_ble_eq_true rfl) (Nat.le_of_ble_eq_true rfl) ?_
    have e9 := Option.some.inj hf
    subst e9
    exact W.vret hx hb hr (fun t ht hW => ⟨⟨(), rfl, trivial, by rw [ht]; exact hP, hD⟩, hS.F ht⟩) hS.2.2 dX0_lookUpTo_45
  have JK8 : ∀ (w9 : Nat → Int32) (w10 : Nat → Int64) (H : Heap) (locs : List Loc), va_P D vwCl [eD cI hd n ds, eS hs hd S T, eB ht hs w9, eL ql w10] H → va_D A [eD cI hd n ds, eS hs hd S T, eB ht hs w9, eL ql w10] → va_S A s.heap H locs → ∀ (ls : Array Slot), lv_has ls 5 [] → K8 w9 w10 = some r → W p l e (headSpec wsX0_lookUpTo ({ frames := 5, cells := 0, slots := 0, locals := 115 })).room s m ([.ref ht, .int a0, .int a1, .ref ql] : List Value).toArray below meth c H locs 0 0 (MQ below (mQv D A [eD cI hd n ds, eS hs hd S T, eB ht hs r.1, eL ql r.2]) ([.ref ht, .int a0, .int a1, .ref ql] : List Value).toArray s 0 0 A) (F0 m 60 ls []) := by
    intro w9 w10 H locs hP hD hS ls hl hf
    rw [hK8] at hf
    refine W.widen (k := 0) (n := 0) (Nat.le_of_ble_eq_true rfl) (Nat.le_of_ble_eq_true rfl) ?_
    have e9 := Option.some.inj hf
    subst e9
    exact W.vret hx hb hr (fun t ht hW => ⟨⟨(), rfl, trivial, by rw [ht]; exact hP, hD⟩, hS.F ht⟩) hS.2.2 dX0_lookUpTo_60
  have LP6 : ∀ (n11 : Nat) (x2 : Int32) (w3 : Nat → Int32) (w4 : Nat → Int64) (H : Heap) (locs : List Loc), va_P D vwCl [eD cI hd n ds, eS hs hd S T, eB ht hs w3, eL ql w4] H → va_D A [eD cI hd n ds, eS hs hd S T, eB ht hs w3, eL ql w4] → va_S A s.heap H locs → ∀ (ls : Array Slot), lv_has ls 5 [(0, .ref ht), (1, .int a0), (2, .int a1), (3, .ref ql), (4, .int x2)] → f_X0_lookUpTo_L6 n ds a0 N S T a1 K5 K8 n11 x2 w3 w4 = some r → W p l e (headSpec wsX0_lookUpTo ({ frames := 5, cells := 0, slots := 0, locals := 115 })).room s m ([.ref ht, .int a0, .int a1, .ref ql] : List Value).toArray below meth c H locs 0 0 (MQ below (mQv D A [eD cI hd n ds, eS hs hd S T, eB ht hs r.1, eL ql r.2]) ([.ref ht, .int a0, .int a1, .ref ql] : List Value).toArray s 0 0 A) (F0 m 6 ls []) := by
    intro n11
    induction n11 with
    | zero => intro x2 w3 w4 H locs hP hD hS ls hl hf; exact (no_s hf).elim
    | succ n11 ih11 =>
      intro x2 w3 w4 H locs hP hD hS ls hl hf
      rw [f_X0_lookUpTo_L6] at hf
      refine lv_iload hx hb dX0_lookUpTo_6 (lv_at hl 4 rfl) ?_
      refine lv_if_lt (tgt := 60) hx hb dX0_lookUpTo_8 (by decide) (fun c12 => ?_) (fun c12 => ?_)
      · have hf := it hf c12
        exact JK8 w3 w4 _ _ hP hD hS ls (lv_sub hl [] rfl) hf
      · have hf := ie hf c12
        refine lv_iload hx hb dX0_lookUpTo_11 (lv_at hl 4 rfl) ?_
        refine lv_aload_n hx hb dX0_lookUpTo_13 rfl (lv_at hl 0 rfl) ?_
        refine va_get (D := D) (ci := 0) (v := .ref hs) (C := RX0) (T := TX0) (N := 9) hx hb hts inX0_lookUpTo_X0 hown hK hP 2 rfl rfl 0 (by decide) (hts (.fieldLink RX0 9 "BondDesk$Bond" "schedule" "LBondDesk$Schedule;") (by decide +kernel)) (fun _ h9 => h9) rfl dX0_lookUpTo_14 ?_
        refine va_get (D := D) (ci := 2) (v := .ref hd) (C := RX3) (T := TX3) (N := 9) hx hb hts inX0_lookUpTo_X3 hown hK hP 1 rfl rfl 6 (by decide) (hts (.fieldLink RX0 66 "BondDesk$Schedule" "dates" "[I") (by decide +kernel)) (fun _ h9 => h9) rfl dX0_lookUpTo_17 ?_
        refine va_alen (v := nI n) hx hb hK hP 0 0 rfl rfl rfl dX0_lookUpTo_20 ?_
        refine lv_icmp_ge (tgt := 60) hx hb dX0_lookUpTo_21 (by decide) (fun c13 => ?_) (fun c13 => ?_)
        · have hf := it hf c13
          exact JK8 w3 w4 _ _ hP hD hS ls (lv_sub hl [] rfl) hf
        · have hf := ie hf c13
          refine lv_aload_n hx hb dX0_lookUpTo_24 rfl (lv_at hl 0 rfl) ?_
          obtain ⟨v14, hv14, hf⟩ := ob hf
          refine cSz (W.runV (As := []) (rest := []) ⟨hx, hb, hml, hown, hts⟩ (m_X0_isGone l D cI cJ cO ah ht hs hd w3 S T n ds v14 hv14) (cwV 0 hts gX0_lookUpTo_X0_isGone rfl rfl rfl (by decide +kernel) ⟨(Nat.le_of_ble_eq_true rfl), (Nat.le_of_ble_eq_true rfl)⟩) ⟨pw_blind, va_recv hK hP (ci := 0) (q0 := 2) rfl rfl, fun U hU hW => ⟨rfl, pw_at hZ hS hP hK hU hW (Or.inr rfl) [0, 1, 2] rfl⟩⟩ rfl rfl hl.1 rfl (lv_room (Nat.le_of_ble_eq_true rfl)) dX0_lookUpTo_25 ⟨(Nat.le_of_ble_eq_true rfl), (Nat.le_of_ble_eq_true rfl)⟩) (fun zv14 => ?_)
          refine lv_if_ne (tgt := 45) hx hb dX0_lookUpTo_28 (by decide) (fun c15 => ?_) (fun c15 => ?_)
          · have hf := ie hf c15
            exact JK5 w3 w4 _ _ hP hD hS ls (lv_sub hl [] rfl) hf
          · have hf := it hf c15
            refine lv_aload_n hx hb dX0_lookUpTo_31 rfl (lv_at hl 0 rfl) ?_
            refine va_get (D := D) (ci := 0) (v := .ref hs) (C := RX0) (T := TX0) (N := 9) hx hb hts inX0_lookUpTo_X0 hown hK hP 2 rfl rfl 0 (by decide) (hts (.fieldLink RX0 9 "BondDesk$Bond" "schedule" "LBondDesk$Schedule;") (by decide +kernel)) (fun _ h9 => h9) rfl dX0_lookUpTo_32 ?_
            refine va_get (D := D) (ci := 2) (v := .ref hd) (C := RX3) (T := TX3) (N := 9) hx hb hts inX0_lookUpTo_X3 hown hK hP 1 rfl rfl 6 (by decide) (hts (.fieldLink RX0 66 "BondDesk$Schedule" "dates" "[I") (by decide +kernel)) (fun _ h9 => h9) rfl dX0_lookUpTo_35 ?_
            refine lv_iload hx hb dX0_lookUpTo_38 (lv_at hl 4 rfl) ?_
            obtain ⟨c16, hf⟩ := gd_s hf
            refine va_iald hx hb hK hP 0 0 rfl rfl c16 dX0_lookUpTo_40 ?_
            refine lv_iload_n hx hb dX0_lookUpTo_41 rfl (lv_at hl 1 rfl) ?_
            refine lv_icmp_le (tgt := 46) hx hb dX0_lookUpTo_42 (by decide) (fun c17 => ?_) (fun c17 => ?_)
            · have hf := it hf c17
              refine lv_aload_n hx hb dX0_lookUpTo_46 rfl (lv_at hl 0 rfl) ?_
              refine lv_iload hx hb dX0_lookUpTo_47 (lv_at hl 4 rfl) ?_
              refine lv_iload_n hx hb dX0_lookUpTo_49 rfl (lv_at hl 2 rfl) ?_
              refine lv_aload_n hx hb dX0_lookUpTo_50 rfl (lv_at hl 3 rfl) ?_
              obtain ⟨v18, hv18, hf⟩ := ob hf
              have hPc := hP.sub (ws' := [eD cI hd n ds, eS hs hd S T, eB ht hs w3, eL ql w4]) [0, 1, 2, 3] rfl
              have hDc := hD.sub (ws' := [eD cI hd n ds, eS hs hd S T, eB ht hs w3, eL ql w4]) [0, 1, 2, 3] (by decide) rfl
              have hFc := va_free (wc := [eD cI hd n ds, eS hs hd S T, eB ht hs w3, eL ql w4]) hD hS hA [0, 1, 2, 3] rfl
              refine va_callv (va_runV (As := [.int x2, .int a1, .ref ql]) (rest := []) ⟨hx, hb, hml, hown, hts⟩ (m_X0_lookAt l D cI cJ cO ah ht hs hd ql w3 S T n ds w4 H.size x2 a1 N v18 hv18) (cwV 3 hts gX0_lookUpTo_X0_lookAt rfl rfl rfl (by decide +kernel) ⟨(Nat.le_of_ble_eq_true rfl), (Nat.le_of_ble_eq_true rfl)⟩) ⟨mp_blind, va_recv hK hP (ci := 0) (q0 := 2) rfl rfl, fun U hU hW => ⟨rfl, mp_at hZ hS hPc hK hDc hFc hU hW (Or.inr rfl)⟩⟩ rfl rfl hl.1 rfl (lv_room (Nat.le_of_ble_eq_true rfl)) dX0_lookUpTo_51 ⟨(Nat.le_of_ble_eq_true rfl), (Nat.le_of_ble_eq_true rfl)⟩) hS (fun q _ h => hFc q h) hFc (fun u t H1 locs ht9 hvm hw hBx hz1 hk1 hS => ?_)
              obtain ⟨hP1, hD1⟩ := hBx
              rw [ht9] at hP1
              obtain ⟨hP, hD⟩ := va_join (wr := []) (w1 := [eD cI hd n ds, eS hs hd S T, eB ht hs v18.1, eL ql v18.2]) hP hD [0, 1, 2, 3] [] rfl rfl (by decide) (by decide) hk1 hFc hP1 hD1
              have hP := hP.sub (ws' := [eD cI hd n ds, eS hs hd S T, eB ht hs v18.1, eL ql v18.2]) [0, 1, 2, 3] rfl
              have hD := hD.sub (ws' := [eD cI hd n ds, eS hs hd S T, eB ht hs v18.1, eL ql v18.2]) [0, 1, 2, 3] (by decide) rfl
              generalize H1 = H at hP hS ⊢
              obtain ⟨x19, ex19⟩ : ∃ y : Int32, y = x2 + 1 := ⟨_, rfl⟩
              have hf := bd_s hf ex19
              refine lv_iinc (v := x19) (lv' := [(4, .int x19), (0, .ref ht), (1, .int a0), (2, .int a1), (3, .ref ql)]) hx hb dX0_lookUpTo_54 hl (k := 4) rfl (by rw [ex19]; rfl) (by decide) rfl (fun ls hl => ?_)
              refine lv_goto (tgt := 6) hx hb dX0_lookUpTo_57 (by decide) ?_
              exact ih11 x19 v18.1 v18.2 _ _ hP hD hS ls (lv_sub hl [1, 2, 3, 4, 0] rfl) hf
            · have hf := ie hf c17
              exact JK5 w3 w4 _ _ hP hD hS ls (lv_sub hl [] rfl) hf
  exact LP6 N x1 B LG _ _ hP hD hS ls (lv_sub hl [1, 2, 3, 4, 0] rfl) hf
