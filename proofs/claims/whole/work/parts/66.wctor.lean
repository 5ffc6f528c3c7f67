set_option maxHeartbeats 4000000 in
set_option maxRecDepth 100000 in
theorem m_X2_init (l : Launch) (D : va_G) (cI cJ cO : ClassId) (ah : Nat) (ql : Nat) (LG : Nat → Int64) (r : Unit) (hf : f_X2_init = some r) : Met l yX2_init wsX2_init ({ frames := 1, cells := 0, slots := 0, locals := 24 }) (va_Pc [.ref ql] (pw D (ty3 cI cJ cO) none [eL ql LG])) (va_Sv (fun _ => True)) 0 0 (fun _ => False) := by
  refine Met.ofW (cc := cX2_init) (maxL := 1) (ret := none) (by decide) rfl ?_
  intro p e s m args below meth c s₁ Bd hml hv
  obtain ⟨rfl, hZ, hP, hK⟩ := hv
  have hx := Bd.exec
  have hb := Bd.bytes
  have hr := Bd.returns
  have hts := atoms_spec (ws := wsX2_init) Bd.pre
  have hown : s.vm.findClass RX2 = some m.cls := findClass_of_methodNamed Bd.named
  have hlocks := Bd.notSynchronized
  have hin : meth.name = "<init>" := (name_of_methodNamed Bd.named Bd.method).1
  have hl := lv_entry ([.ref ql]) (n := 1) (Nat.le_of_ble_eq_true rfl)
  rw [lg_entry_eq]
  generalize (lg_sl ([.ref ql]) ++ List.replicate (1 - (lg_sl ([.ref ql])).length) Slot.unset).toArray = ls at hl ⊢
  have hl : lv_has ls 1 [(0, .ref ql)] := hl
  unfold f_X2_init at hf
  refine lv_aload_n hx hb dX2_init_0 rfl (lv_at hl 0 rfl) ?_
  refine W.objInit hx hb hown (hts (.methodLink RX2 1 objectInit) (by decide +kernel)) (hts (.instanceMethod objectInit) (by decide +kernel)) (hts (.code objectInit ⟨#[0xb1]⟩ 1 none) (by decide +kernel)) rfl (by rw [hml]; exact hl.1) rfl dX2_init_1 (Nat.le_of_ble_eq_true rfl) (Nat.le_of_ble_eq_true rfl) ?_
  refine W.eq (g2 := F0 m 4 ls []) rfl ?_
  exact W.vret hx hb hr (fun t ht _ => ⟨rfl, trivial, ht⟩) (fun q hq => absurd hq List.not_mem_nil) dX2_init_4
theorem inX3_init_X3 : ∀ w ∈ wsX30, w ∈ wsX3_init := by decide +kernel
set_option maxHeartbeats 4000000 in
set_option maxRecDepth 100000 in
theorem m_X3_init (l : Launch) (D : va_G) (cI cJ cO : ClassId) (ah : Nat) (hs : Nat) (sz : Nat) (a0 : Int32) (a1 : Int32) (a2 : Int32) (a3 : Int32) (a4 : Int32) (a5 : Int32) (N : Nat) (r : (Nat → Int32) × (Nat → Int64) × Nat × (Nat → Int32)) (hf : f_X3_init N a0 a1 a2 a3 a4 a5 = some r) : Met l yX3_init wsX3_init ({ frames := 3, cells := 1, slots := 120, locals := 70 }) (va_Pc [.ref hs, .int a0, .int a1, .int a2, .int a3, .int a4, .int a5] (mP D (ty3 cI cJ cO) (some ah) [eSr hs .null (fun _ => 0) (fun _ => 0)] sz)) (cQv D (va_A [eSr hs .null (fun _ => 0) (fun _ => 0)] sz) (fun u : Nat => [eS hs u r.1 r.2.1, eD cI u r.2.2.1 r.2.2.2])) 1 120 (va_A [eSr hs .null (fun _ => 0) (fun _ => 0)] sz) := by
  refine Met.ofW (cc := cX3_init) (maxL := 8) (ret := none) (by decide) rfl ?_
  intro p e s m args below meth c s₁ Bd hml hv
  obtain ⟨rfl, hsz, hZ, hP, hK, hD0⟩ := hv
  have hx := Bd.exec
  have hb := Bd.bytes
  have hr := Bd.returns
  have hts := atoms_spec (ws := wsX3_init) Bd.pre
  have hown : s.vm.findClass RX3 = some m.cls := findClass_of_methodNamed Bd.named
  have hlocks := Bd.notSynchronized
  subst hsz
  have hD := hD0.self (sz := s.heap.size)
  generalize hAe : va_A [eSr hs .null (fun _ => 0) (fun _ => 0)] s.heap.size = A at hD hZ ⊢
  have hA : ∀ q : Nat, s.heap.size ≤ q → A q := fun q h => by rw [← hAe]; exact Or.inr h
  have hS : va_S A s.heap s.heap [] := va_S.rf
  have hin : meth.name = "<init>" := (name_of_methodNamed Bd.named Bd.method).1
  have hl := lv_entry ([.ref hs, .int a0, .int a1, .int a2, .int a3, .int a4, .int a5]) (n := 8) (Nat.le_of_ble_eq_true rfl)
  rw [lg_entry_eq]
  generalize (lg_sl ([.ref hs, .int a0, .int a1, .int a2, .int a3, .int a4, .int a5]) ++ List.replicate (8 - (lg_sl ([.ref hs, .int a0, .int a1, .int a2, .int a3, .int a4, .int a5])).length) Slot.unset).toArray = ls at hl ⊢
  have hl : lv_has ls 8 [(0, .ref hs), (1, .int a0), (2, .int a1), (3, .int a2), (4, .int a3), (5, .int a4), (6, .int a5)] := hl
  unfold f_X3_init at hf
  refine lv_aload_n hx hb dX3_init_0 rfl (lv_at hl 0 rfl) ?_
  refine W.objInit hx hb hown (hts (.methodLink RX3 1 objectInit) (by decide +kernel)) (hts (.instanceMethod objectInit) (by decide +kernel)) (hts (.code objectInit ⟨#[0xb1]⟩ 1 none) (by decide +kernel)) rfl (by rw [hml]; exact hl.1) rfl dX3_init_1 (Nat.le_of_ble_eq_true rfl) (Nat.le_of_ble_eq_true rfl) ?_
  refine W.eq (g2 := F0 m 4 ls []) rfl ?_
  refine lv_aload_n hx hb dX3_init_4 rfl (lv_at hl 0 rfl) ?_
  refine lv_iload_n hx hb dX3_init_5 rfl (lv_at hl 1 rfl) ?_
  refine va_putF (D := D) (ci := 2) (v := .int a0) (ty := .int) (C := RX3) (T := TX3) (N := 9) hx hb hts inX3_init_X3 tyX3 tyX3_ok nmX3 hown hK hP hD hS 0 rfl rfl 0 (by decide) (hts (.fieldLink RX3 7 "BondDesk$Schedule" "issue" "I") (by decide +kernel)) (fun _ h9 => h9) rfl hin rfl (by decide +kernel) rfl rfl (Nat.le_of_ble_eq_true rfl) dX3_init_6 (fun H locs hP hD hS => ?_)
  have hP : va_P D vwCl [eSr hs .null (va_up (fun _ => 0) 0 a0) (fun _ => 0)] H := hP
  have hD : va_D A [eSr hs .null (va_up (fun _ => 0) 0 a0) (fun _ => 0)] := hD
  refine lv_aload_n hx hb dX3_init_9 rfl (lv_at hl 0 rfl) ?_
  refine lv_iload_n hx hb dX3_init_10 rfl (lv_at hl 2 rfl) ?_
  refine va_putF (D := D) (ci := 2) (v := .int a1) (ty := .int) (C := RX3) (T := TX3) (N := 9) hx hb hts inX3_init_X3 tyX3 tyX3_ok nmX3 hown hK hP hD hS 0 rfl rfl 1 (by decide) (hts (.fieldLink RX3 13 "BondDesk$Schedule" "end" "I") (by decide +kernel)) (fun _ h9 => h9) rfl hin rfl (by decide +kernel) rfl rfl (Nat.le_of_ble_eq_true rfl) dX3_init_11 (fun H locs hP hD hS => ?_)
  have hP : va_P D vwCl [eSr hs .null (va_up (va_up (fun _ => 0) 0 a0) 1 a1) (fun _ => 0)] H := hP
  have hD : va_D A [eSr hs .null (va_up (va_up (fun _ => 0) 0 a0) 1 a1) (fun _ => 0)] := hD
  refine lv_aload_n hx hb dX3_init_14 rfl (lv_at hl 0 rfl) ?_
  refine lv_iload_n hx hb dX3_init_15 rfl (lv_at hl 3 rfl) ?_
  refine va_putF (D := D) (ci := 2) (v := .int a2) (ty := .int) (C := RX3) (T := TX3) (N := 9) hx hb hts inX3_init_X3 tyX3 tyX3_ok nmX3 hown hK hP hD hS 0 rfl rfl 2 (by decide) (hts (.fieldLink RX3 16 "BondDesk$Schedule" "rate" "I") (by decide +kernel)) (fun _ h9 => h9) rfl hin rfl (by decide +kernel) rfl rfl (Nat.le_of_ble_eq_true rfl) dX3_init_16 (fun H locs hP hD hS => ?_)
  have hP : va_P D vwCl [eSr hs .null (va_up (va_up (va_up (fun _ => 0) 0 a0) 1 a1) 2 a2) (fun _ => 0)] H := hP
  have hD : va_D A [eSr hs .null (va_up (va_up (va_up (fun _ => 0) 0 a0) 1 a1) 2 a2) (fun _ => 0)] := hD
  refine lv_aload_n hx hb dX3_init_19 rfl (lv_at hl 0 rfl) ?_
  refine lv_iload hx hb dX3_init_20 (lv_at hl 4 rfl) ?_
  refine va_putF (D := D) (ci := 2) (v := .int a3) (ty := .int) (C := RX3) (T := TX3) (N := 9) hx hb hts inX3_init_X3 tyX3 tyX3_ok nmX3 hown hK hP hD hS 0 rfl rfl 3 (by decide) (hts (.fieldLink RX3 19 "BondDesk$Schedule" "perYear" "I") (by decide +kernel)) (fun _ h9 => h9) rfl hin rfl (by decide +kernel) rfl rfl (Nat.le_of_ble_eq_true rfl) dX3_init_22 (fun H locs hP hD hS => ?_)
  have hP : va_P D vwCl [eSr hs .null (va_up (va_up (va_up (va_up (fun _ => 0) 0 a0) 1 a1) 2 a2) 3 a3) (fun _ => 0)] H := hP
  have hD : va_D A [eSr hs .null (va_up (va_up (va_up (va_up (fun _ => 0) 0 a0) 1 a1) 2 a2) 3 a3) (fun _ => 0)] := hD
  refine lv_aload_n hx hb dX3_init_25 rfl (lv_at hl 0 rfl) ?_
  refine lv_iload hx hb dX3_init_26 (lv_at hl 5 rfl) ?_
  refine va_putF (D := D) (ci := 2) (v := .int a4) (ty := .int) (C := RX3) (T := TX3) (N := 9) hx hb hts inX3_init_X3 tyX3 tyX3_ok nmX3 hown hK hP hD hS 0 rfl rfl 4 (by decide) (hts (.fieldLink RX3 22 "BondDesk$Schedule" "way" "I") (by decide +kernel)) (fun _ h9 => h9) rfl hin rfl (by decide +kernel) rfl rfl (Nat.le_of_ble_eq_true rfl) dX3_init_28 (fun H locs hP hD hS => ?_)
  have hP : va_P D vwCl [eSr hs .null (va_up (va_up (va_up (va_up (va_up (fun _ => 0) 0 a0) 1 a1) 2 a2) 3 a3) 4 a4) (fun _ => 0)] H := hP
  have hD : va_D A [eSr hs .null (va_up (va_up (va_up (va_up (va_up (fun _ => 0) 0 a0) 1 a1) 2 a2) 3 a3) 4 a4) (fun _ => 0)] := hD
  refine lv_aload_n hx hb dX3_init_31 rfl (lv_at hl 0 rfl) ?_
  refine lv_iload_n hx hb dX3_init_32 rfl (lv_at hl 2 rfl) ?_
  refine lv_iload hx hb dX3_init_33 (lv_at hl 6 rfl) ?_
  refine lv_iload hx hb dX3_init_35 (lv_at hl 4 rfl) ?_
  obtain ⟨v1, hv1, hf⟩ := ob hf
  refine cSi (W.runS (As := [.int a1, .int a5, .int a3]) (rest := [.ref hs]) ⟨hx, hb, hml, hown, hts⟩ (m_X3_dateBack l D cI cJ cO ah a1 a5 a3 v1 hv1) (va_cwS 3 hts gX3_init_X3_dateBack rfl rfl rfl (by decide +kernel) ⟨(Nat.le_of_ble_eq_true rfl), (Nat.le_of_ble_eq_true rfl)⟩) ⟨pw_blind, fun U hU hW => ⟨rfl, pw_at hZ hS hP hK hU hW (Or.inr rfl) [] rfl⟩⟩ rfl rfl hl.1 rfl (lv_room (Nat.le_of_ble_eq_true rfl)) dX3_init_37 ⟨(Nat.le_of_ble_eq_true rfl), (Nat.le_of_ble_eq_true rfl)⟩) ?_
  refine va_putF (D := D) (ci := 2) (v := .int v1) (ty := .int) (C := RX3) (T := TX3) (N := 9) hx hb hts inX3_init_X3 tyX3 tyX3_ok nmX3 hown hK hP hD hS 0 rfl rfl 5 (by decide) (hts (.fieldLink RX3 29 "BondDesk$Schedule" "regularBegin" "I") (by decide +kernel)) (fun _ h9 => h9) rfl hin rfl (by decide +kernel) rfl rfl (Nat.le_of_ble_eq_true rfl) dX3_init_40 (fun H locs hP hD hS => ?_)
  have hP : va_P D vwCl [eSr hs .null (va_up (va_up (va_up (va_up (va_up (va_up (fun _ => 0) 0 a0) 1 a1) 2 a2) 3 a3) 4 a4) 5 v1) (fun _ => 0)] H := hP
  have hD : va_D A [eSr hs .null (va_up (va_up (va_up (va_up (va_up (va_up (fun _ => 0) 0 a0) 1 a1) 2 a2) 3 a3) 4 a4) 5 v1) (fun _ => 0)] := hD
  refine lv_aload_n hx hb dX3_init_43 rfl (lv_at hl 0 rfl) ?_
  refine lv_iconst (v := 0) hx hb dX3_init_44 (by decide) ?_
  refine lv_iload hx hb dX3_init_45 (lv_at hl 6 rfl) ?_
  refine lv_bipush (v := 120) hx hb dX3_init_47 (by decide) ?_
  refine va_mmin hx hb (hml.trans hl.1.symm) hown (hts (.methodLink RX3 32 Lib.Math.min.name) (by decide +kernel)) (hts (.static Lib.Math.min.name) (by decide +kernel)) (hts (.initialized "java/lang/Math") (by decide +kernel)) (hts (.code Lib.Math.min.name Lib.Math.min.code 2 (some .int)) (by decide +kernel)) (Nat.le_of_ble_eq_true rfl) (Nat.le_of_ble_eq_true rfl) (Nat.le_of_ble_eq_true rfl) (Nat.le_of_ble_eq_true rfl) dX3_init_49 ?_
  refine lv_topi (fun x2 ex2 => ?_)
  have hf := bd_s hf ex2
  refine va_mmax hx hb (hml.trans hl.1.symm) hown (hts (.methodLink RX3 38 Lib.Math.max.name) (by decide +kernel)) (hts (.static Lib.Math.max.name) (by decide +kernel)) (hts (.initialized "java/lang/Math") (by decide +kernel)) (hts (.code Lib.Math.max.name Lib.Math.max.code 2 (some .int)) (by decide +kernel)) (Nat.le_of_ble_eq_true rfl) (Nat.le_of_ble_eq_true rfl) (Nat.le_of_ble_eq_true rfl) (Nat.le_of_ble_eq_true rfl) dX3_init_52 ?_
  refine lv_topi (fun x3 ex3 => ?_)
  have hf := bd_s hf ex3
  obtain ⟨c5, hf⟩ := gd_s hf
  refine va_newa (atype := .int) (a0 := (x3.toNatClampNeg, .inl (fun _ => 0))) hx hb (hts (.arrayClass .int) (by decide +kernel)) rfl hK hP hD hS hA (fun _ => rfl) c5.1 rfl (Nat.le_trans (Nat.mul_le_mul_right _ c5.2) (Nat.le_of_ble_eq_true rfl)) (Nat.le_of_ble_eq_true rfl) (Nat.le_trans (Nat.add_le_add_left c5.2 _) (Nat.le_of_ble_eq_true rfl)) dX3_init_55 (fun q4 cA H hK hP hD hS => ?_)
  obtain rfl := ka_eq hK (by decide) 0 3 rfl rfl
  have hK := hK.sub (tys' := ty3 cI cJ cO) [0, 1, 2] rfl
  have hP : va_P D vwCl [eSr hs .null (va_up (va_up (va_up (va_up (va_up (va_up (fun _ => 0) 0 a0) 1 a1) 2 a2) 3 a3) 4 a4) 5 v1) (fun _ => 0), eD cI q4 x3.toNatClampNeg (fun _ => 0)] H := hP
  have hD : va_D A [eSr hs .null (va_up (va_up (va_up (va_up (va_up (va_up (fun _ => 0) 0 a0) 1 a1) 2 a2) 3 a3) 4 a4) 5 v1) (fun _ => 0), eD cI q4 x3.toNatClampNeg (fun _ => 0)] := hD
  refine W.widen (k := 1) (n := 120) (Nat.le_of_ble_eq_true rfl) (Nat.le_trans (Nat.add_le_add_left c5.2 _) (Nat.le_of_ble_eq_true rfl)) ?_
  refine va_putF (D := D) (ci := 2) (v := .ref q4) (ty := .array .int) (C := RX3) (T := TX3) (N := 9) hx hb hts inX3_init_X3 tyX3 tyX3_ok nmX3 hown hK hP hD hS 0 rfl rfl 6 (by decide) (hts (.fieldLink RX3 41 "BondDesk$Schedule" "dates" "[I") (by decide +kernel)) (fun _ h9 => h9) rfl hin rfl (by decide +kernel) rfl rfl (Nat.le_of_ble_eq_true rfl) dX3_init_57 (fun H locs hP hD hS => ?_)
  have hP : va_P D vwCl [eS hs q4 (va_up (va_up (va_up (va_up (va_up (va_up (fun _ => 0) 0 a0) 1 a1) 2 a2) 3 a3) 4 a4) 5 v1) (fun _ => 0), eD cI q4 x3.toNatClampNeg (fun _ => 0)] H := hP
  have hD : va_D A [eS hs q4 (va_up (va_up (va_up (va_up (va_up (va_up (fun _ => 0) 0 a0) 1 a1) 2 a2) 3 a3) 4 a4) 5 v1) (fun _ => 0), eD cI q4 x3.toNatClampNeg (fun _ => 0)] := hD
  refine lv_iconst (v := 0) hx hb dX3_init_60 (by decide) ?_
  refine lv_istore (lv' := [(7, .int 0), (0, .ref hs), (1, .int a0), (2, .int a1), (3, .int a2), (4, .int a3), (5, .int a4), (6, .int a5)]) hx hb dX3_init_61 hl (by decide) rfl (fun ls hl => ?_)
  obtain ⟨K11, hK11, hf⟩ := kx_s (P := fun k => f_X3_init_L63 a1 a3 k N 0 (va_up (va_up (va_up (va_up (va_up (va_up (fun _ => 0) 0 a0) 1 a1) 2 a2) 3 a3) 4 a4) 5 v1) (fun _ => 0) x3.toNatClampNeg (fun _ => 0) = some r) hf
  have JK11 : ∀ (w12 : Nat → Int32) (w13 : Nat → Int64) (w14 : Nat) (w15 : Nat → Int32) (H : Heap) (locs : List Loc), va_P D vwCl [eS hs q4 w12 w13, eD cI q4 w14 w15] H → va_D A [eS hs q4 w12 w13, eD cI q4 w14 w15] → va_S A s.heap H locs → ∀ (ls : Array Slot), lv_has ls 8 [(0, .ref hs), (1, .int a0), (2, .int a1)] → K11 w12 w13 w14 w15 = some r → W p l e (headSpec wsX3_init ({ frames := 3, cells := 1, slots := 120, locals := 70 })).room s m ([.ref hs, .int a0, .int a1, .int a2, .int a3, .int a4, .int a5] : List Value).toArray below meth c H locs 1 120 (MQ below (cQv D A (fun u : Nat => [eS hs u r.1 r.2.1, eD cI u r.2.2.1 r.2.2.2])) ([.ref hs, .int a0, .int a1, .int a2, .int a3, .int a4, .int a5] : List Value).toArray s 1 120 A) (F0 m 102 ls []) := by
    intro w12 w13 w14 w15 H locs hP hD hS ls hl hf
    rw [hK11] at hf
    refine lv_aload_n hx hb dX3_init_102 rfl (lv_at hl 0 rfl) ?_
    refine lv_aload_n hx hb dX3_init_103 rfl (lv_at hl 0 rfl) ?_
    refine lv_iload_n hx hb dX3_init_104 rfl (lv_at hl 1 rfl) ?_
    refine lv_aload_n hx hb dX3_init_105 rfl (lv_at hl 0 rfl) ?_
    refine va_get (D := D) (ci := 2) (v := .ref q4) (C := RX3) (T := TX3) (N := 9) hx hb hts inX3_init_X3 hown hK hP 0 rfl rfl 6 (by decide) (hts (.fieldLink RX3 41 "BondDesk$Schedule" "dates" "[I") (by decide +kernel)) (fun _ h9 => h9) rfl dX3_init_106 ?_
    refine va_alen (v := nI w14) hx hb hK hP 1 0 rfl rfl rfl dX3_init_109 ?_
    obtain ⟨K22, hK22, hf⟩ := jn_s hf
    have JK22 : ∀ (x23 : Int32) (ls : Array Slot), lv_has ls 8 [(0, .ref hs)] → K22 x23 = some r → W p l e (headSpec wsX3_init ({ frames := 3, cells := 1, slots := 120, locals := 70 })).room s m ([.ref hs, .int a0, .int a1, .int a2, .int a3, .int a4, .int a5] : List Value).toArray below meth c H locs 1 120 (MQ below (cQv D A (fun u : Nat => [eS hs u r.1 r.2.1, eD cI u r.2.2.1 r.2.2.2])) ([.ref hs, .int a0, .int a1, .int a2, .int a3, .int a4, .int a5] : List Value).toArray s 1 120 A) (F0 m 123 ls [.int x23, .int a0, .ref hs, .ref hs]) := by
      intro x23 ls hl hf
      rw [hK22] at hf
      obtain ⟨v24, hv24, hf⟩ := ob hf
      refine cSl (W.runV (As := [.int a0, .int x23]) (rest := [.ref hs]) ⟨hx, hb, hml, hown, hts⟩ (m_X3_daysCounted l D cI cJ cO ah hs q4 w12 w13 w14 w15 a0 x23 v24 hv24) (cwV 2 hts gX3_init_X3_daysCounted rfl rfl rfl (by decide +kernel) ⟨(Nat.le_of_ble_eq_true rfl), (Nat.le_of_ble_eq_true rfl)⟩) ⟨pw_blind, va_recv hK hP (ci := 2) (q0 := 0) rfl rfl, fun U hU hW => ⟨rfl, pw_at hZ hS hP hK hU hW (Or.inr rfl) [1, 0] rfl⟩⟩ rfl rfl hl.1 rfl (lv_room (Nat.le_of_ble_eq_true rfl)) dX3_init_123 ⟨(Nat.le_of_ble_eq_true rfl), (Nat.le_of_ble_eq_true rfl)⟩) ?_
      refine va_putF (D := D) (ci := 2) (v := .long v24) (ty := .long) (C := RX3) (T := TX3) (N := 9) hx hb hts inX3_init_X3 tyX3 tyX3_ok nmX3 hown hK hP hD hS 0 rfl rfl 7 (by decide) (hts (.fieldLink RX3 49 "BondDesk$Schedule" "firstDays" "J") (by decide +kernel)) (fun _ h9 => h9) rfl hin rfl (by decide +kernel) rfl rfl (Nat.le_of_ble_eq_true rfl) dX3_init_126 (fun H locs hP hD hS => ?_)
      have hP : va_P D vwCl [eS hs q4 w12 (va_up w13 7 v24), eD cI q4 w14 w15] H := hP
      have hD : va_D A [eS hs q4 w12 (va_up w13 7 v24), eD cI q4 w14 w15] := hD
      refine lv_aload_n hx hb dX3_init_129 rfl (lv_at hl 0 rfl) ?_
      refine lv_aload_n hx hb dX3_init_130 rfl (lv_at hl 0 rfl) ?_
      refine lv_iconst (v := 0) hx hb dX3_init_131 (by decide) ?_
      obtain ⟨v25, hv25, hf⟩ := ob hf
      refine cSl (W.runV (As := [.int 0]) (rest := [.ref hs]) ⟨hx, hb, hml, hown, hts⟩ (m_X3_yearOfPeriod l D cI cJ cO ah hs q4 w12 (va_up w13 7 v24) w14 w15 0 v25 hv25) (cwV 1 hts gX3_init_X3_yearOfPeriod rfl rfl rfl (by decide +kernel) ⟨(Nat.le_of_ble_eq_true rfl), (Nat.le_of_ble_eq_true rfl)⟩) ⟨pw_blind, va_recv hK hP (ci := 2) (q0 := 0) rfl rfl, fun U hU hW => ⟨rfl, pw_at hZ hS hP hK hU hW (Or.inr rfl) [1, 0] rfl⟩⟩ rfl rfl hl.1 rfl (lv_room (Nat.le_of_ble_eq_true rfl)) dX3_init_132 ⟨(Nat.le_of_ble_eq_true rfl), (Nat.le_of_ble_eq_true rfl)⟩) ?_
      refine va_putF (D := D) (ci := 2) (v := .long v25) (ty := .long) (C := RX3) (T := TX3) (N := 9) hx hb hts inX3_init_X3 tyX3 tyX3_ok nmX3 hown hK hP hD hS 0 rfl rfl 8 (by decide) (hts (.fieldLink RX3 57 "BondDesk$Schedule" "firstYear" "J") (by decide +kernel)) (fun _ h9 => h9) rfl hin rfl (by decide +kernel) rfl rfl (Nat.le_of_ble_eq_true rfl) dX3_init_135 (fun H locs hP hD hS => ?_)
      have hP : va_P D vwCl [eS hs q4 w12 (va_up (va_up w13 7 v24) 8 v25), eD cI q4 w14 w15] H := hP
      have hD : va_D A [eS hs q4 w12 (va_up (va_up w13 7 v24) 8 v25), eD cI q4 w14 w15] := hD
      refine W.widen (k := 1) (n := 120) (Nat.le_of_ble_eq_true rfl) (Nat.le_of_ble_eq_true rfl) ?_
      have e9 := Option.some.inj hf
      subst e9
      exact W.vret hx hb hr (fun t ht hW => ⟨⟨q4, rfl, trivial, by rw [ht]; exact hP, hD⟩, hS.F ht⟩) hS.2.2 dX3_init_138
    refine lv_if_le (tgt := 122) hx hb dX3_init_110 (by decide) (fun c26 => ?_) (fun c26 => ?_)
    · have hf := it hf c26
      refine lv_iload_n hx hb dX3_init_122 rfl (lv_at hl 2 rfl) ?_
      exact JK22 a1 ls (lv_sub hl [0] rfl) hf
    · have hf := ie hf c26
      refine lv_aload_n hx hb dX3_init_113 rfl (lv_at hl 0 rfl) ?_
      refine va_get (D := D) (ci := 2) (v := .ref q4) (C := RX3) (T := TX3) (N := 9) hx hb hts inX3_init_X3 hown hK hP 0 rfl rfl 6 (by decide) (hts (.fieldLink RX3 41 "BondDesk$Schedule" "dates" "[I") (by decide +kernel)) (fun _ h9 => h9) rfl dX3_init_114 ?_
      refine lv_iconst (v := 0) hx hb dX3_init_117 (by decide) ?_
      obtain ⟨c27, hf⟩ := gd_s hf
      refine va_iald hx hb hK hP 1 0 rfl rfl c27 dX3_init_118 ?_
      refine lv_goto (tgt := 123) hx hb dX3_init_119 (by decide) ?_
      exact JK22 (w15 (0 : Int32).toNatClampNeg) ls (lv_sub hl [0] rfl) hf
  have LP63 : ∀ (n16 : Nat) (x6 : Int32) (w7 : Nat → Int32) (w8 : Nat → Int64) (w9 : Nat) (w10 : Nat → Int32) (H : Heap) (locs : List Loc), va_P D vwCl [eS hs q4 w7 w8, eD cI q4 w9 w10] H → va_D A [eS hs q4 w7 w8, eD cI q4 w9 w10] → va_S A s.heap H locs → ∀ (ls : Array Slot), lv_has ls 8 [(0, .ref hs), (1, .int a0), (2, .int a1), (4, .int a3), (7, .int x6)] → f_X3_init_L63 a1 a3 K11 n16 x6 w7 w8 w9 w10 = some r → W p l e (headSpec wsX3_init ({ frames := 3, cells := 1, slots := 120, locals := 70 })).room s m ([.ref hs, .int a0, .int a1, .int a2, .int a3, .int a4, .int a5] : List Value).toArray below meth c H locs 1 120 (MQ below (cQv D A (fun u : Nat => [eS hs u r.1 r.2.1, eD cI u r.2.2.1 r.2.2.2])) ([.ref hs, .int a0, .int a1, .int a2, .int a3, .int a4, .int a5] : List Value).toArray s 1 120 A) (F0 m 63 ls []) := by
    intro n16
    induction n16 with
    | zero => intro x6 w7 w8 w9 w10 H locs hP hD hS ls hl hf; exact (no_s hf).elim
    | succ n16 ih16 =>
      intro x6 w7 w8 w9 w10 H locs hP hD hS ls hl hf
      rw [f_X3_init_L63] at hf
      refine lv_iload hx hb dX3_init_63 (lv_at hl 4 rfl) ?_
      refine lv_aload_n hx hb dX3_init_65 rfl (lv_at hl 0 rfl) ?_
      refine va_get (D := D) (ci := 2) (v := .ref q4) (C := RX3) (T := TX3) (N := 9) hx hb hts inX3_init_X3 hown hK hP 0 rfl rfl 6 (by decide) (hts (.fieldLink RX3 41 "BondDesk$Schedule" "dates" "[I") (by decide +kernel)) (fun _ h9 => h9) rfl dX3_init_66 ?_
      refine va_alen (v := nI w9) hx hb hK hP 1 0 rfl rfl rfl dX3_init_69 ?_
      refine lv_icmp_ge (tgt := 102) hx hb dX3_init_70 (by decide) (fun c17 => ?_) (fun c17 => ?_)
      · have hf := it hf c17
        exact JK11 w7 w8 w9 w10 _ _ hP hD hS ls (lv_sub hl [0, 1, 2] rfl) hf
      · have hf := ie hf c17
        refine lv_aload_n hx hb dX3_init_73 rfl (lv_at hl 0 rfl) ?_
        refine va_get (D := D) (ci := 2) (v := .ref q4) (C := RX3) (T := TX3) (N := 9) hx hb hts inX3_init_X3 hown hK hP 0 rfl rfl 6 (by decide) (hts (.fieldLink RX3 41 "BondDesk$Schedule" "dates" "[I") (by decide +kernel)) (fun _ h9 => h9) rfl dX3_init_74 ?_
        refine lv_iload hx hb dX3_init_77 (lv_at hl 4 rfl) ?_
        refine lv_iload_n hx hb dX3_init_79 rfl (lv_at hl 2 rfl) ?_
        refine lv_aload_n hx hb dX3_init_80 rfl (lv_at hl 0 rfl) ?_
        refine va_get (D := D) (ci := 2) (v := .ref q4) (C := RX3) (T := TX3) (N := 9) hx hb hts inX3_init_X3 hown hK hP 0 rfl rfl 6 (by decide) (hts (.fieldLink RX3 41 "BondDesk$Schedule" "dates" "[I") (by decide +kernel)) (fun _ h9 => h9) rfl dX3_init_81 ?_
        refine va_alen (v := nI w9) hx hb hK hP 1 0 rfl rfl rfl dX3_init_84 ?_
        refine lv_iconst (v := 1) hx hb dX3_init_85 (by decide) ?_
        refine lv_isub hx hb dX3_init_86 ?_
        refine lv_iload hx hb dX3_init_87 (lv_at hl 4 rfl) ?_
        refine lv_isub hx hb dX3_init_89 ?_
        refine lv_iload hx hb dX3_init_90 (lv_at hl 3 rfl) ?_
        obtain ⟨v18, hv18, hf⟩ := ob hf
        refine cSi (W.runS (As := [.int a1, .int (((nI w9) - 1) - x6), .int a3]) (rest := [.int x6, .ref q4]) ⟨hx, hb, hml, hown, hts⟩ (m_X3_dateBack l D cI cJ cO ah a1 (((nI w9) - 1) - x6) a3 v18 hv18) (va_cwS 3 hts gX3_init_X3_dateBack rfl rfl rfl (by decide +kernel) ⟨(Nat.le_of_ble_eq_true rfl), (Nat.le_of_ble_eq_true rfl)⟩) ⟨pw_blind, fun U hU hW => ⟨rfl, pw_at hZ hS hP hK hU hW (Or.inr rfl) [] rfl⟩⟩ rfl rfl hl.1 rfl (lv_room (Nat.le_of_ble_eq_true rfl)) dX3_init_92 ⟨(Nat.le_of_ble_eq_true rfl), (Nat.le_of_ble_eq_true rfl)⟩) ?_
        obtain ⟨c19, hf⟩ := gd_s hf
        refine va_iast hx hb hK hP hD hS 1 0 rfl rfl c19 dX3_init_95 (fun H locs hP hD hS => ?_)
        obtain ⟨w20, ew20⟩ : ∃ z, z = upd w10 x6.toNatClampNeg v18 := ⟨_, rfl⟩
        have hf := bd_s hf ew20
        rw [← ew20] at hP hD
        have hP : va_P D vwCl [eS hs q4 w7 w8, eD cI q4 w9 w20] H := hP
        have hD : va_D A [eS hs q4 w7 w8, eD cI q4 w9 w20] := hD
        obtain ⟨x21, ex21⟩ : ∃ y : Int32, y = x6 + 1 := ⟨_, rfl⟩
        have hf := bd_s hf ex21
        refine lv_iinc (v := x21) (lv' := [(7, .int x21), (0, .ref hs), (1, .int a0), (2, .int a1), (4, .int a3)]) hx hb dX3_init_96 hl (k := 4) rfl (by rw [ex21]; rfl) (by decide) rfl (fun ls hl => ?_)
        refine lv_goto (tgt := 63) hx hb dX3_init_99 (by decide) ?_
        exact ih16 x21 w7 w8 w9 w20 _ _ hP hD hS ls (lv_sub hl [1, 2, 3, 4, 0] rfl) hf
  exact LP63 N 0 (va_up (va_up (va_up (va_up (va_up (va_up (fun _ => 0) 0 a0) 1 a1) 2 a2) 3 a3) 4 a4) 5 v1) (fun _ => 0) x3.toNatClampNeg (fun _ => 0) _ _ hP hD hS ls (lv_sub hl [1, 2, 3, 5, 0] rfl) hf
theorem inX0_init_X0 : ∀ w ∈ wsX00, w ∈ wsX0_init := by decide +kernel
set_option maxHeartbeats 4000000 in
set_option maxRecDepth 100000 in
theorem m_X0_init (l : Launch) (D : va_G) (cI cJ cO : ClassId) (ah : Nat) (ht : Nat) (hs : Nat) (hd : Nat) (S : Nat → Int32) (T : Nat → Int64) (n : Nat) (ds : Nat → Int32) (sz : Nat) (a1 : Int32) (N : Nat) (r : (Nat → Int32)) (hf : f_X0_init N n ds a1 = some r) : Met l yX0_init wsX0_init ({ frames := 1, cells := 0, slots := 0, locals := 24 }) (va_Pc [.ref ht, .ref hs, .int a1] (mP D (ty3 cI cJ cO) (some ah) [eD cI hd n ds, eS hs hd S T, eBr ht .null (fun _ => 0)] sz)) (cQv D (va_A [eD cI hd n ds, eS hs hd S T, eBr ht .null (fun _ => 0)] sz) (fun u : Unit => [eD cI hd n ds, eS hs hd S T, eB ht hs r])) 0 0 (va_A [eD cI hd n ds, eS hs hd S T, eBr ht .null (fun _ => 0)] sz) := by
  refine Met.ofW (cc := cX0_init) (maxL := 3) (ret := none) (by decide) rfl ?_
  intro p e s m args below meth c s₁ Bd hml hv
  obtain ⟨rfl, hsz, hZ, hP, hK, hD0⟩ := hv
  have hx := Bd.exec
  have hb := Bd.bytes
  have hr := Bd.returns
  have hts := atoms_spec (ws := wsX0_init) Bd.pre
  have hown : s.vm.findClass RX0 = some m.cls := findClass_of_methodNamed Bd.named
  have hlocks := Bd.notSynchronized
  subst hsz
  have hD := hD0.self (sz := s.heap.size)
  generalize hAe : va_A [eD cI hd n ds, eS hs hd S T, eBr ht .null (fun _ => 0)] s.heap.size = A at hD hZ ⊢
  have hA : ∀ q : Nat, s.heap.size ≤ q → A q := fun q h => by rw [← hAe]; exact Or.inr h
  have hS : va_S A s.heap s.heap [] := va_S.rf
  have hin : meth.name = "<init>" := (name_of_methodNamed Bd.named Bd.method).1
  have hl := lv_entry ([.ref ht, .ref hs, .int a1]) (n := 3) (Nat.le_of_ble_eq_true rfl)
  rw [lg_entry_eq]
  generalize (lg_sl ([.ref ht, .ref hs, .int a1]) ++ List.replicate (3 - (lg_sl ([.ref ht, .ref hs, .int a1])).length) Slot.unset).toArray = ls at hl ⊢
  have hl : lv_has ls 3 [(0, .ref ht), (1, .ref hs), (2, .int a1)] := hl
  unfold f_X0_init at hf
  refine lv_aload_n hx hb dX0_init_0 rfl (lv_at hl 0 rfl) ?_
  refine W.objInit hx hb hown (hts (.methodLink RX0 3 objectInit) (by decide +kernel)) (hts (.instanceMethod objectInit) (by decide +kernel)) (hts (.code objectInit ⟨#[0xb1]⟩ 1 none) (by decide +kernel)) rfl (by rw [hml]; exact hl.1) rfl dX0_init_1 (Nat.le_of_ble_eq_true rfl) (Nat.le_of_ble_eq_true rfl) ?_
  refine W.eq (g2 := F0 m 4 ls []) rfl ?_
  refine lv_aload_n hx hb dX0_init_4 rfl (lv_at hl 0 rfl) ?_
  refine lv_aload_n hx hb dX0_init_5 rfl (lv_at hl 1 rfl) ?_
  refine va_putF (D := D) (ci := 0) (v := .ref hs) (ty := .object "BondDesk$Schedule") (C := RX0) (T := TX0) (N := 9) hx hb hts inX0_init_X0 tyX0 tyX0_ok nmX0 hown hK hP hD hS 2 rfl rfl 0 (by decide) (hts (.fieldLink RX0 9 "BondDesk$Bond" "schedule" "LBondDesk$Schedule;") (by decide +kernel)) (fun _ h9 => h9) rfl hin rfl (by decide +kernel) rfl rfl (Nat.le_of_ble_eq_true rfl) dX0_init_6 (fun H locs hP hD hS => ?_)
  have hP : va_P D vwCl [eD cI hd n ds, eS hs hd S T, eB ht hs (fun _ => 0)] H := hP
  have hD : va_D A [eD cI hd n ds, eS hs hd S T, eB ht hs (fun _ => 0)] := hD
  refine lv_aload_n hx hb dX0_init_9 rfl (lv_at hl 0 rfl) ?_
  refine lv_sipush (v := 10000) hx hb dX0_init_10 (by decide) ?_
  refine va_put (D := D) (ci := 0) (v := .int 10000) (ty := .int) (C := RX0) (T := TX0) (N := 9) hx hb hts inX0_init_X0 tyX0 tyX0_ok nmX0 hown hK hP hD hS 2 rfl rfl 1 (by decide) (hts (.fieldLink RX0 15 "BondDesk$Bond" "factor" "I") (by decide +kernel)) (fun _ h9 => h9) rfl (by decide +kernel) rfl rfl (Nat.le_of_ble_eq_true rfl) dX0_init_13 (fun H locs hP hD hS => ?_)
  have hP : va_P D vwCl [eD cI hd n ds, eS hs hd S T, eB ht hs (va_up (fun _ => 0) 1 (10000 : Int32))] H := hP
  have hD : va_D A [eD cI hd n ds, eS hs hd S T, eB ht hs (va_up (fun _ => 0) 1 (10000 : Int32))] := hD
  refine lv_aload_n hx hb dX0_init_16 rfl (lv_at hl 0 rfl) ?_
  refine lv_aload_n hx hb dX0_init_17 rfl (lv_at hl 1 rfl) ?_
  refine lv_iload_n hx hb dX0_init_18 rfl (lv_at hl 2 rfl) ?_
  obtain ⟨v1, hv1, hf⟩ := ob hf
  refine cSi (W.runV (As := [.int a1]) (rest := [.ref ht]) ⟨hx, hb, hml, hown, hts⟩ (m_X3_firstBehind l D cI cJ cO ah hs hd S T n ds a1 N v1 hv1) (cwV 1 hts gX0_init_X3_firstBehind rfl rfl rfl (by decide +kernel) ⟨(Nat.le_of_ble_eq_true rfl), (Nat.le_of_ble_eq_true rfl)⟩) ⟨pw_blind, va_recv hK hP (ci := 2) (q0 := 1) rfl rfl, fun U hU hW => ⟨rfl, pw_at hZ hS hP hK hU hW (Or.inr rfl) [0, 1] rfl⟩⟩ rfl rfl hl.1 rfl (lv_room (Nat.le_of_ble_eq_true rfl)) dX0_init_19 ⟨(Nat.le_of_ble_eq_true rfl), (Nat.le_of_ble_eq_true rfl)⟩) ?_
  refine va_put (D := D) (ci := 0) (v := .int v1) (ty := .int) (C := RX0) (T := TX0) (N := 9) hx hb hts inX0_init_X0 tyX0 tyX0_ok nmX0 hown hK hP hD hS 2 rfl rfl 3 (by decide) (hts (.fieldLink RX0 25 "BondDesk$Bond" "next" "I") (by decide +kernel)) (fun _ h9 => h9) rfl (by decide +kernel) rfl rfl (Nat.le_of_ble_eq_true rfl) dX0_init_22 (fun H locs hP hD hS => ?_)
  have hP : va_P D vwCl [eD cI hd n ds, eS hs hd S T, eB ht hs (va_up (va_up (fun _ => 0) 1 (10000 : Int32)) 3 v1)] H := hP
  have hD : va_D A [eD cI hd n ds, eS hs hd S T, eB ht hs (va_up (va_up (fun _ => 0) 1 (10000 : Int32)) 3 v1)] := hD
  refine W.widen (k := 0) (n := 0) (Nat.le_of_ble_eq_true rfl) (Nat.le_of_ble_eq_true rfl) ?_
  have e9 := Option.some.inj hf
  subst e9
  exact W.vret hx hb hr (fun t ht hW => ⟨⟨(), rfl, trivial, by rw [ht]; exact hP, hD⟩, hS.F ht⟩) hS.2.2 dX0_init_25
theorem inX5_init_X5 : ∀ w ∈ wsX50, w ∈ wsX5_init := by decide +kernel
set_option maxHeartbeats 4000000 in
set_option maxRecDepth 100000 in
theorem m_X5_init (l : Launch) (D : va_G) (cI cJ cO : ClassId) (hm : Nat) (sz : Nat) (N : Nat) (r : (Nat → Int32) × Int64) (hf : f_X5_init N = some r) : Met l yX5_init wsX5_init ({ frames := 2, cells := 4, slots := 1384, locals := 44 }) (va_Pc [.ref hm] (mP D (ty3 cI cJ cO) none [eMr hm .null .null .null .null (fun _ => 0) 0] sz)) (cQv D (va_A [eMr hm .null .null .null .null (fun _ => 0) 0] sz) (fun u : Nat × Nat × Nat × Nat => [eM hm u.1 u.2.1 u.2.2.1 u.2.2.2 r.1 r.2, eH cI u.1 (fun _ => 0), eO cI u.2.1 (fun _ => 0), eY cI u.2.2.1 (fun _ => 0), eP cJ u.2.2.2 (fun _ => 0)])) 4 1384 (va_A [eMr hm .null .null .null .null (fun _ => 0) 0] sz) := by
  refine Met.ofW (cc := cX5_init) (maxL := 1) (ret := none) (by decide) rfl ?_
  intro p e s m args below meth c s₁ Bd hml hv
  obtain ⟨rfl, hsz, hZ, hP, hK, hD0⟩ := hv
  have hx := Bd.exec
  have hb := Bd.bytes
  have hr := Bd.returns
  have hts := atoms_spec (ws := wsX5_init) Bd.pre
  have hown : s.vm.findClass RX5 = some m.cls := findClass_of_methodNamed Bd.named
  have hlocks := Bd.notSynchronized
  subst hsz
  have hD := hD0.self (sz := s.heap.size)
  generalize hAe : va_A [eMr hm .null .null .null .null (fun _ => 0) 0] s.heap.size = A at hD hZ ⊢
  have hA : ∀ q : Nat, s.heap.size ≤ q → A q := fun q h => by rw [← hAe]; exact Or.inr h
  have hS : va_S A s.heap s.heap [] := va_S.rf
  have hin : meth.name = "<init>" := (name_of_methodNamed Bd.named Bd.method).1
  have hl := lv_entry ([.ref hm]) (n := 1) (Nat.le_of_ble_eq_true rfl)
  rw [lg_entry_eq]
  generalize (lg_sl ([.ref hm]) ++ List.replicate (1 - (lg_sl ([.ref hm])).length) Slot.unset).toArray = ls at hl ⊢
  have hl : lv_has ls 1 [(0, .ref hm)] := hl
  unfold f_X5_init at hf
  refine lv_aload_n hx hb dX5_init_0 rfl (lv_at hl 0 rfl) ?_
  refine W.objInit hx hb hown (hts (.methodLink RX5 1 objectInit) (by decide +kernel)) (hts (.instanceMethod objectInit) (by decide +kernel)) (hts (.code objectInit ⟨#[0xb1]⟩ 1 none) (by decide +kernel)) rfl (by rw [hml]; exact hl.1) rfl dX5_init_1 (Nat.le_of_ble_eq_true rfl) (Nat.le_of_ble_eq_true rfl) ?_
  refine W.eq (g2 := F0 m 4 ls []) rfl ?_
  refine lv_aload_n hx hb dX5_init_4 rfl (lv_at hl 0 rfl) ?_
  refine lv_ldc hx hb hown (hts (.constant RX5 7 (20260101)) (by decide +kernel)) dX5_init_5 ?_
  obtain ⟨v1, hv1, hf⟩ := ob hf
  refine cSi (W.runS (As := [.int 20260101]) (rest := [.ref hm]) ⟨hx, hb, hml, hown, hts⟩ (m_X5_number l D cI cJ cO 20260101 N v1 hv1) (va_cwS 1 hts gX5_init_X5_number rfl rfl rfl (by decide +kernel) ⟨(Nat.le_of_ble_eq_true rfl), (Nat.le_of_ble_eq_true rfl)⟩) ⟨pw_blind, fun U hU hW => ⟨rfl, pw_at hZ hS hP hK hU hW (Or.inr rfl) [] rfl⟩⟩ rfl rfl hl.1 rfl (lv_room (Nat.le_of_ble_eq_true rfl)) dX5_init_7 ⟨(Nat.le_of_ble_eq_true rfl), (Nat.le_of_ble_eq_true rfl)⟩) ?_
  refine va_put (D := D) (ci := 4) (v := .int v1) (ty := .int) (C := RX5) (T := TX5) (N := 10) hx hb hts inX5_init_X5 tyX5 tyX5_ok nmX5 hown hK hP hD hS 0 rfl rfl 1 (by decide) (hts (.fieldLink RX5 14 "BondDeskModel" "today" "I") (by decide +kernel)) (fun _ h9 => h9) rfl (by decide +kernel) rfl rfl (Nat.le_of_ble_eq_true rfl) dX5_init_10 (fun H locs hP hD hS => ?_)
  have hP : va_P D vwCl [eMr hm .null .null .null .null (va_up (fun _ => 0) 1 v1) 0] H := hP
  have hD : va_D A [eMr hm .null .null .null .null (va_up (fun _ => 0) 1 v1) 0] := hD
  refine lv_aload_n hx hb dX5_init_13 rfl (lv_at hl 0 rfl) ?_
  refine lv_ldc2 hx hb hown (hts (.constantLong RX5 18 (200000000)) (by decide +kernel)) dX5_init_14 ?_
  refine va_put (D := D) (ci := 4) (v := .long 200000000) (ty := .long) (C := RX5) (T := TX5) (N := 10) hx hb hts inX5_init_X5 tyX5 tyX5_ok nmX5 hown hK hP hD hS 0 rfl rfl 2 (by decide) (hts (.fieldLink RX5 20 "BondDeskModel" "cash" "J") (by decide +kernel)) (fun _ h9 => h9) rfl (by decide +kernel) rfl rfl (Nat.le_of_ble_eq_true rfl) dX5_init_17 (fun H locs hP hD hS => ?_)
  have hP : va_P D vwCl [eMr hm .null .null .null .null (va_up (fun _ => 0) 1 v1) (200000000 : Int64)] H := hP
  have hD : va_D A [eMr hm .null .null .null .null (va_up (fun _ => 0) 1 v1) (200000000 : Int64)] := hD
  refine lv_aload_n hx hb dX5_init_20 rfl (lv_at hl 0 rfl) ?_
  refine lv_sipush (v := 300) hx hb dX5_init_21 (by decide) ?_
  refine va_put (D := D) (ci := 4) (v := .int 300) (ty := .int) (C := RX5) (T := TX5) (N := 10) hx hb hts inX5_init_X5 tyX5 tyX5_ok nmX5 hown hK hP hD hS 0 rfl rfl 3 (by decide) (hts (.fieldLink RX5 24 "BondDeskModel" "rate" "I") (by decide +kernel)) (fun _ h9 => h9) rfl (by decide +kernel) rfl rfl (Nat.le_of_ble_eq_true rfl) dX5_init_24 (fun H locs hP hD hS => ?_)
  have hP : va_P D vwCl [eMr hm .null .null .null .null (va_up (va_up (fun _ => 0) 1 v1) 3 (300 : Int32)) (200000000 : Int64)] H := hP
  have hD : va_D A [eMr hm .null .null .null .null (va_up (va_up (fun _ => 0) 1 v1) 3 (300 : Int32)) (200000000 : Int64)] := hD
  refine lv_aload_n hx hb dX5_init_27 rfl (lv_at hl 0 rfl) ?_
  refine lv_bipush (v := 30) hx hb dX5_init_28 (by decide) ?_
  refine va_newa (atype := .int) (a0 := (30, .inl (fun _ => 0))) hx hb (hts (.arrayClass .int) (by decide +kernel)) rfl hK hP hD hS hA (fun _ => rfl) (by decide) rfl (Nat.le_of_ble_eq_true rfl) (Nat.le_of_ble_eq_true rfl) (Nat.le_of_ble_eq_true rfl) dX5_init_30 (fun q2 cA H hK hP hD hS => ?_)
  obtain rfl := ka_eq hK (by decide) 0 3 rfl rfl
  have hK := hK.sub (tys' := ty3 cI cJ cO) [0, 1, 2] rfl
  have hP : va_P D vwCl [eMr hm .null .null .null .null (va_up (va_up (fun _ => 0) 1 v1) 3 (300 : Int32)) (200000000 : Int64), (q2, .inl (cI, 30, .inl (fun _ => 0)))] H := hP
  have hD : va_D A [eMr hm .null .null .null .null (va_up (va_up (fun _ => 0) 1 v1) 3 (300 : Int32)) (200000000 : Int64), (q2, .inl (cI, 30, .inl (fun _ => 0)))] := hD
  refine W.widen (k := 1) (n := 30) (Nat.le_of_ble_eq_true rfl) (Nat.le_of_ble_eq_true rfl) ?_
  refine va_putF (D := D) (ci := 4) (v := .ref q2) (ty := .array .int) (C := RX5) (T := TX5) (N := 10) hx hb hts inX5_init_X5 tyX5 tyX5_ok nmX5 hown hK hP hD hS 0 rfl rfl 6 (by decide) (hts (.fieldLink RX5 27 "BondDeskModel" "holiday" "[I") (by decide +kernel)) (fun _ h9 => h9) rfl hin rfl (by decide +kernel) rfl rfl (Nat.le_of_ble_eq_true rfl) dX5_init_32 (fun H locs hP hD hS => ?_)
  have hP : va_P D vwCl [eMr hm (.ref q2) .null .null .null (va_up (va_up (fun _ => 0) 1 v1) 3 (300 : Int32)) (200000000 : Int64), (q2, .inl (cI, 30, .inl (fun _ => 0)))] H := hP
  have hD : va_D A [eMr hm (.ref q2) .null .null .null (va_up (va_up (fun _ => 0) 1 v1) 3 (300 : Int32)) (200000000 : Int64), (q2, .inl (cI, 30, .inl (fun _ => 0)))] := hD
  refine lv_aload_n hx hb dX5_init_35 rfl (lv_at hl 0 rfl) ?_
  refine lv_sipush (v := 140) hx hb dX5_init_36 (by decide) ?_
  refine va_newa (atype := .int) (a0 := (140, .inl (fun _ => 0))) hx hb (hts (.arrayClass .int) (by decide +kernel)) rfl hK hP hD hS hA (fun _ => rfl) (by decide) rfl (Nat.le_of_ble_eq_true rfl) (Nat.le_of_ble_eq_true rfl) (Nat.le_of_ble_eq_true rfl) dX5_init_39 (fun q3 cA H hK hP hD hS => ?_)
  obtain rfl := ka_eq hK (by decide) 0 3 rfl rfl
  have hK := hK.sub (tys' := ty3 cI cJ cO) [0, 1, 2] rfl
  have hP : va_P D vwCl [eMr hm (.ref q2) .null .null .null (va_up (va_up (fun _ => 0) 1 v1) 3 (300 : Int32)) (200000000 : Int64), (q2, .inl (cI, 30, .inl (fun _ => 0))), (q3, .inl (cI, 140, .inl (fun _ => 0)))] H := hP
  have hD : va_D A [eMr hm (.ref q2) .null .null .null (va_up (va_up (fun _ => 0) 1 v1) 3 (300 : Int32)) (200000000 : Int64), (q2, .inl (cI, 30, .inl (fun _ => 0))), (q3, .inl (cI, 140, .inl (fun _ => 0)))] := hD
  refine W.widen (k := 2) (n := 170) (Nat.le_of_ble_eq_true rfl) (Nat.le_of_ble_eq_true rfl) ?_
  refine va_putF (D := D) (ci := 4) (v := .ref q3) (ty := .array .int) (C := RX5) (T := TX5) (N := 10) hx hb hts inX5_init_X5 tyX5 tyX5_ok nmX5 hown hK hP hD hS 0 rfl rfl 7 (by decide) (hts (.fieldLink RX5 31 "BondDeskModel" "of" "[I") (by decide +kernel)) (fun _ h9 => h9) rfl hin rfl (by decide +kernel) rfl rfl (Nat.le_of_ble_eq_true rfl) dX5_init_41 (fun H locs hP hD hS => ?_)
  have hP : va_P D vwCl [eMr hm (.ref q2) (.ref q3) .null .null (va_up (va_up (fun _ => 0) 1 v1) 3 (300 : Int32)) (200000000 : Int64), (q2, .inl (cI, 30, .inl (fun _ => 0))), (q3, .inl (cI, 140, .inl (fun _ => 0)))] H := hP
  have hD : va_D A [eMr hm (.ref q2) (.ref q3) .null .null (va_up (va_up (fun _ => 0) 1 v1) 3 (300 : Int32)) (200000000 : Int64), (q2, .inl (cI, 30, .inl (fun _ => 0))), (q3, .inl (cI, 140, .inl (fun _ => 0)))] := hD
  refine lv_aload_n hx hb dX5_init_44 rfl (lv_at hl 0 rfl) ?_
  refine lv_sipush (v := 1210) hx hb dX5_init_45 (by decide) ?_
  refine va_newa (atype := .int) (a0 := (1210, .inl (fun _ => 0))) hx hb (hts (.arrayClass .int) (by decide +kernel)) rfl hK hP hD hS hA (fun _ => rfl) (by decide) rfl (Nat.le_of_ble_eq_true rfl) (Nat.le_of_ble_eq_true rfl) (Nat.le_of_ble_eq_true rfl) dX5_init_48 (fun q4 cA H hK hP hD hS => ?_)
  obtain rfl := ka_eq hK (by decide) 0 3 rfl rfl
  have hK := hK.sub (tys' := ty3 cI cJ cO) [0, 1, 2] rfl
  have hP : va_P D vwCl [eMr hm (.ref q2) (.ref q3) .null .null (va_up (va_up (fun _ => 0) 1 v1) 3 (300 : Int32)) (200000000 : Int64), (q2, .inl (cI, 30, .inl (fun _ => 0))), (q3, .inl (cI, 140, .inl (fun _ => 0))), (q4, .inl (cI, 1210, .inl (fun _ => 0)))] H := hP
  have hD : va_D A [eMr hm (.ref q2) (.ref q3) .null .null (va_up (va_up (fun _ => 0) 1 v1) 3 (300 : Int32)) (200000000 : Int64), (q2, .inl (cI, 30, .inl (fun _ => 0))), (q3, .inl (cI, 140, .inl (fun _ => 0))), (q4, .inl (cI, 1210, .inl (fun _ => 0)))] := hD
  refine W.widen (k := 3) (n := 1380) (Nat.le_of_ble_eq_true rfl) (Nat.le_of_ble_eq_true rfl) ?_
  refine va_putF (D := D) (ci := 4) (v := .ref q4) (ty := .array .int) (C := RX5) (T := TX5) (N := 10) hx hb hts inX5_init_X5 tyX5 tyX5_ok nmX5 hown hK hP hD hS 0 rfl rfl 8 (by decide) (hts (.fieldLink RX5 34 "BondDeskModel" "day" "[I") (by decide +kernel)) (fun _ h9 => h9) rfl hin rfl (by decide +kernel) rfl rfl (Nat.le_of_ble_eq_true rfl) dX5_init_50 (fun H locs hP hD hS => ?_)
  have hP : va_P D vwCl [eMr hm (.ref q2) (.ref q3) (.ref q4) .null (va_up (va_up (fun _ => 0) 1 v1) 3 (300 : Int32)) (200000000 : Int64), (q2, .inl (cI, 30, .inl (fun _ => 0))), (q3, .inl (cI, 140, .inl (fun _ => 0))), (q4, .inl (cI, 1210, .inl (fun _ => 0)))] H := hP
  have hD : va_D A [eMr hm (.ref q2) (.ref q3) (.ref q4) .null (va_up (va_up (fun _ => 0) 1 v1) 3 (300 : Int32)) (200000000 : Int64), (q2, .inl (cI, 30, .inl (fun _ => 0))), (q3, .inl (cI, 140, .inl (fun _ => 0))), (q4, .inl (cI, 1210, .inl (fun _ => 0)))] := hD
  refine lv_aload_n hx hb dX5_init_53 rfl (lv_at hl 0 rfl) ?_
  refine lv_iconst (v := 4) hx hb dX5_init_54 (by decide) ?_
  refine va_newa (atype := .long) (a0 := (4, .inr (.inl (fun _ => 0)))) hx hb (hts (.arrayClass .long) (by decide +kernel)) rfl hK hP hD hS hA (fun _ => rfl) (by decide) rfl (Nat.le_of_ble_eq_true rfl) (Nat.le_of_ble_eq_true rfl) (Nat.le_of_ble_eq_true rfl) dX5_init_55 (fun q5 cA H hK hP hD hS => ?_)
  obtain rfl := ka_eq hK (by decide) 1 3 rfl rfl
  have hK := hK.sub (tys' := ty3 cI cJ cO) [0, 1, 2] rfl
  have hP : va_P D vwCl [eMr hm (.ref q2) (.ref q3) (.ref q4) .null (va_up (va_up (fun _ => 0) 1 v1) 3 (300 : Int32)) (200000000 : Int64), (q2, .inl (cI, 30, .inl (fun _ => 0))), (q3, .inl (cI, 140, .inl (fun _ => 0))), (q4, .inl (cI, 1210, .inl (fun _ => 0))), (q5, .inl (cJ, 4, .inr (.inl (fun _ => 0))))] H := hP
  have hD : va_D A [eMr hm (.ref q2) (.ref q3) (.ref q4) .null (va_up (va_up (fun _ => 0) 1 v1) 3 (300 : Int32)) (200000000 : Int64), (q2, .inl (cI, 30, .inl (fun _ => 0))), (q3, .inl (cI, 140, .inl (fun _ => 0))), (q4, .inl (cI, 1210, .inl (fun _ => 0))), (q5, .inl (cJ, 4, .inr (.inl (fun _ => 0))))] := hD
  refine W.widen (k := 4) (n := 1384) (Nat.le_of_ble_eq_true rfl) (Nat.le_of_ble_eq_true rfl) ?_
  refine va_putF (D := D) (ci := 4) (v := .ref q5) (ty := .array .long) (C := RX5) (T := TX5) (N := 10) hx hb hts inX5_init_X5 tyX5 tyX5_ok nmX5 hown hK hP hD hS 0 rfl rfl 9 (by decide) (hts (.fieldLink RX5 37 "BondDeskModel" "paid" "[J") (by decide +kernel)) (fun _ h9 => h9) rfl hin rfl (by decide +kernel) rfl rfl (Nat.le_of_ble_eq_true rfl) dX5_init_57 (fun H locs hP hD hS => ?_)
  have hP : va_P D vwCl [eMr hm (.ref q2) (.ref q3) (.ref q4) (.ref q5) (va_up (va_up (fun _ => 0) 1 v1) 3 (300 : Int32)) (200000000 : Int64), (q2, .inl (cI, 30, .inl (fun _ => 0))), (q3, .inl (cI, 140, .inl (fun _ => 0))), (q4, .inl (cI, 1210, .inl (fun _ => 0))), (q5, .inl (cJ, 4, .inr (.inl (fun _ => 0))))] H := hP
  have hD : va_D A [eMr hm (.ref q2) (.ref q3) (.ref q4) (.ref q5) (va_up (va_up (fun _ => 0) 1 v1) 3 (300 : Int32)) (200000000 : Int64), (q2, .inl (cI, 30, .inl (fun _ => 0))), (q3, .inl (cI, 140, .inl (fun _ => 0))), (q4, .inl (cI, 1210, .inl (fun _ => 0))), (q5, .inl (cJ, 4, .inr (.inl (fun _ => 0))))] := hD
  refine W.widen (k := 4) (n := 1384) (Nat.le_of_ble_eq_true rfl) (Nat.le_of_ble_eq_true rfl) ?_
  have e9 := Option.some.inj hf
  subst e9
  exact W.vret hx hb hr (fun t ht hW => ⟨⟨(q2, q3, q4, q5), rfl, trivial, by rw [ht]; exact hP, hD⟩, hS.F ht⟩) hS.2.2 dX5_init_60
theorem inX4_init_X2 : ∀ w ∈ wsX20, w ∈ wsX4_init := by decide +kernel
theorem inX4_init_X4 : ∀ w ∈ wsX40, w ∈ wsX4_init := by decide +kernel
set_option maxHeartbeats 4000000 in
set_option maxRecDepth 100000 in
theorem m_X4_init (l : Launch) (D : va_G) (cI cJ cO : ClassId) (ah : Nat) (qk : Nat) (sz : Nat) (r : (Nat → Int32) × Int64) (hf : f_X4_init = some r) : Met l yX4_init wsX4_init ({ frames := 2, cells := 3, slots := 44, locals := 44 }) (va_Pc [.ref qk] (iP D (ty3 cI cJ cO) none [eKr qk .null .null .null (fun _ => 0) 0] sz)) (cQv D (va_A [eKr qk .null .null .null (fun _ => 0) 0] sz) (fun u : Nat × Nat × Nat => [eK qk u.1 u.2.1 u.2.2 r.1 r.2, eG cI u.1 (fun _ => 0), (u.2.1, .inl (cO, 10, .inr (.inr (.inr (.inr (fun _ => none)))))), eL u.2.2 (fun _ => 0)])) 3 44 (va_A [eKr qk .null .null .null (fun _ => 0) 0] sz) := by
  refine Met.ofW (cc := cX4_init) (maxL := 1) (ret := none) (by decide) rfl ?_
  intro p e s m args below meth c s₁ Bd hml hv
  obtain ⟨rfl, ⟨hsz, hZ, hP, hK, hD0⟩, hAO, hNL⟩ := hv
  have hx := Bd.exec
  have hb := Bd.bytes
  have hr := Bd.returns
  have hts := atoms_spec (ws := wsX4_init) Bd.pre
  have hown : s.vm.findClass RX4 = some m.cls := findClass_of_methodNamed Bd.named
  have hlocks := Bd.notSynchronized
  subst hsz
  have hD := hD0.self (sz := s.heap.size)
  generalize hAe : va_A [eKr qk .null .null .null (fun _ => 0) 0] s.heap.size = A at hD hZ ⊢
  have hA : ∀ q : Nat, s.heap.size ≤ q → A q := fun q h => by rw [← hAe]; exact Or.inr h
  have hS : va_S A s.heap s.heap [] := va_S.rf
  have hin : meth.name = "<init>" := (name_of_methodNamed Bd.named Bd.method).1
  have hl := lv_entry ([.ref qk]) (n := 1) (Nat.le_of_ble_eq_true rfl)
  rw [lg_entry_eq]
  generalize (lg_sl ([.ref qk]) ++ List.replicate (1 - (lg_sl ([.ref qk])).length) Slot.unset).toArray = ls at hl ⊢
  have hl : lv_has ls 1 [(0, .ref qk)] := hl
  unfold f_X4_init at hf
  refine lv_aload_n hx hb dX4_init_0 rfl (lv_at hl 0 rfl) ?_
  refine W.objInit hx hb hown (hts (.methodLink RX4 1 objectInit) (by decide +kernel)) (hts (.instanceMethod objectInit) (by decide +kernel)) (hts (.code objectInit ⟨#[0xb1]⟩ 1 none) (by decide +kernel)) rfl (by rw [hml]; exact hl.1) rfl dX4_init_1 (Nat.le_of_ble_eq_true rfl) (Nat.le_of_ble_eq_true rfl) ?_
  refine W.eq (g2 := F0 m 4 ls []) rfl ?_
  refine lv_aload_n hx hb dX4_init_4 rfl (lv_at hl 0 rfl) ?_
  refine lv_bipush (v := 30) hx hb dX4_init_5 (by decide) ?_
  refine va_newa (atype := .int) (a0 := (30, .inl (fun _ => 0))) hx hb (hts (.arrayClass .int) (by decide +kernel)) rfl hK hP hD hS hA (fun _ => rfl) (by decide) rfl (Nat.le_of_ble_eq_true rfl) (Nat.le_of_ble_eq_true rfl) (Nat.le_of_ble_eq_true rfl) dX4_init_7 (fun q1 cA H hK hP hD hS => ?_)
  obtain rfl := ka_eq hK (by decide) 0 3 rfl rfl
  have hK := hK.sub (tys' := ty3 cI cJ cO) [0, 1, 2] rfl
  have hP : va_P D vwCl [eKr qk .null .null .null (fun _ => 0) 0, (q1, .inl (cI, 30, .inl (fun _ => 0)))] H := hP
  have hD : va_D A [eKr qk .null .null .null (fun _ => 0) 0, (q1, .inl (cI, 30, .inl (fun _ => 0)))] := hD
  refine W.widen (k := 1) (n := 30) (Nat.le_of_ble_eq_true rfl) (Nat.le_of_ble_eq_true rfl) ?_
  refine va_putF (D := D) (ci := 3) (v := .ref q1) (ty := .array .int) (C := RX4) (T := TX4) (N := 8) hx hb hts inX4_init_X4 tyX4 tyX4_ok nmX4 hown hK hP hD hS 0 rfl rfl 0 (by decide) (hts (.fieldLink RX4 9 "BondDesk" "holidays" "[I") (by decide +kernel)) (fun _ h9 => h9) rfl hin rfl (by decide +kernel) rfl rfl (Nat.le_of_ble_eq_true rfl) dX4_init_9 (fun H locs hP hD hS => ?_)
  have hP : va_P D vwCl [eKr qk (.ref q1) .null .null (fun _ => 0) 0, (q1, .inl (cI, 30, .inl (fun _ => 0)))] H := hP
  have hD : va_D A [eKr qk (.ref q1) .null .null (fun _ => 0) 0, (q1, .inl (cI, 30, .inl (fun _ => 0)))] := hD
  refine lv_aload_n hx hb dX4_init_12 rfl (lv_at hl 0 rfl) ?_
  refine lv_bipush (v := 10) hx hb dX4_init_13 (by decide) ?_
  refine va_newq hx hb hown (hts (.classLink RX4 13 RX0) (by decide +kernel)) hAO hK hP hD hS hA (by decide) rfl (Nat.le_of_ble_eq_true rfl) (Nat.le_of_ble_eq_true rfl) (Nat.le_of_ble_eq_true rfl) dX4_init_15 (fun q2 cA H hK hP hD hS => ?_)
  obtain rfl := ka_eqO hK 2 3 rfl rfl
  have hK := hK.sub (tys' := ty3 cI cJ cO) [0, 1, 2] rfl
  have hP : va_P D vwCl [eKr qk (.ref q1) .null .null (fun _ => 0) 0, (q1, .inl (cI, 30, .inl (fun _ => 0))), (q2, .inl (cO, 10, .inr (.inr (.inr (.inr (fun _ => none))))))] H := hP
  have hD : va_D A [eKr qk (.ref q1) .null .null (fun _ => 0) 0, (q1, .inl (cI, 30, .inl (fun _ => 0))), (q2, .inl (cO, 10, .inr (.inr (.inr (.inr (fun _ => none))))))] := hD
  refine W.widen (k := 2) (n := 40) (Nat.le_of_ble_eq_true rfl) (Nat.le_of_ble_eq_true rfl) ?_
  refine va_putF (D := D) (ci := 3) (v := .ref q2) (ty := .array (.object "BondDesk$Bond")) (C := RX4) (T := TX4) (N := 8) hx hb hts inX4_init_X4 tyX4 tyX4_ok nmX4 hown hK hP hD hS 0 rfl rfl 1 (by decide) (hts (.fieldLink RX4 15 "BondDesk" "bonds" "[LBondDesk$Bond;") (by decide +kernel)) (fun _ h9 => h9) rfl hin rfl (by decide +kernel) rfl rfl (Nat.le_of_ble_eq_true rfl) dX4_init_18 (fun H locs hP hD hS => ?_)
  have hP : va_P D vwCl [eKr qk (.ref q1) (.ref q2) .null (fun _ => 0) 0, (q1, .inl (cI, 30, .inl (fun _ => 0))), (q2, .inl (cO, 10, .inr (.inr (.inr (.inr (fun _ => none))))))] H := hP
  have hD : va_D A [eKr qk (.ref q1) (.ref q2) .null (fun _ => 0) 0, (q1, .inl (cI, 30, .inl (fun _ => 0))), (q2, .inl (cO, 10, .inr (.inr (.inr (.inr (fun _ => none))))))] := hD
  refine lv_aload_n hx hb dX4_init_21 rfl (lv_at hl 0 rfl) ?_
  refine va_new (ci := 1) (fs := [.long 0, .long 0, .long 0, .long 0]) (C := RX2) (T := TX2) (N := 4) hx hb hts inX4_init_X2 tyX2 tyX2_ok hown (hts (.classLink RX4 19 RX2) (by decide +kernel)) (hts (.instantiable RX2 4) (by decide +kernel)) (hts (.initialized RX2) (by decide +kernel)) hK hP hD hS hA rfl (fun j hj => by rcases (show j = 0 ∨ j = 1 ∨ j = 2 ∨ j = 3 by omega) with rfl | rfl | rfl | rfl <;> rfl) (Nat.le_of_ble_eq_true rfl) (Nat.le_of_ble_eq_true rfl) dX4_init_22 (fun q3 H hP hD hS => ?_)
  have hP : va_P D vwCl [eKr qk (.ref q1) (.ref q2) .null (fun _ => 0) 0, (q1, .inl (cI, 30, .inl (fun _ => 0))), (q2, .inl (cO, 10, .inr (.inr (.inr (.inr (fun _ => none)))))), eL q3 (fun _ => 0)] H := hP
  have hD : va_D A [eKr qk (.ref q1) (.ref q2) .null (fun _ => 0) 0, (q1, .inl (cI, 30, .inl (fun _ => 0))), (q2, .inl (cO, 10, .inr (.inr (.inr (.inr (fun _ => none)))))), eL q3 (fun _ => 0)] := hD
  refine W.widen (k := 3) (n := 44) (Nat.le_of_ble_eq_true rfl) (Nat.le_of_ble_eq_true rfl) ?_
  refine lv_dup hx hb dX4_init_25 rfl ?_
  refine va_csv (va_Run.run <| va_runIN (As := []) (rest := [.ref q3, .ref qk]) ⟨hx, hb, hml, hown, hts⟩ (m_X2_init l D cI cJ cO ah q3 (fun _ => 0) () rfl) ⟨va_cnB 0 hts gX4_init_X2_init_n21 rfl rfl rfl hNL (hts (.initialized RX2) (by decide +kernel)) (by decide +kernel) ⟨Nat.le_of_ble_eq_true rfl, Nat.le_of_ble_eq_true rfl⟩, rfl, (hts (.instanceMethod yX2_init) (by decide +kernel))⟩ ⟨pw_blind, fun U hU hW => ⟨rfl, pw_at hZ hS hP hK hU hW (Or.inr rfl) [3] rfl⟩⟩ rfl rfl hl.1 rfl (lv_room (Nat.le_of_ble_eq_true rfl)) dX4_init_26 ⟨Nat.le_of_ble_eq_true rfl, Nat.le_of_ble_eq_true rfl⟩) (fun _ => ?_)
  refine va_putF (D := D) (ci := 3) (v := .ref q3) (ty := .object "BondDesk$Ledger") (C := RX4) (T := TX4) (N := 8) hx hb hts inX4_init_X4 tyX4 tyX4_ok nmX4 hown hK hP hD hS 0 rfl rfl 2 (by decide) (hts (.fieldLink RX4 22 "BondDesk" "paid" "LBondDesk$Ledger;") (by decide +kernel)) (fun _ h9 => h9) rfl hin rfl (by decide +kernel) rfl rfl (Nat.le_of_ble_eq_true rfl) dX4_init_29 (fun H locs hP hD hS => ?_)
  have hP : va_P D vwCl [eKr qk (.ref q1) (.ref q2) (.ref q3) (fun _ => 0) 0, (q1, .inl (cI, 30, .inl (fun _ => 0))), (q2, .inl (cO, 10, .inr (.inr (.inr (.inr (fun _ => none)))))), eL q3 (fun _ => 0)] H := hP
  have hD : va_D A [eKr qk (.ref q1) (.ref q2) (.ref q3) (fun _ => 0) 0, (q1, .inl (cI, 30, .inl (fun _ => 0))), (q2, .inl (cO, 10, .inr (.inr (.inr (.inr (fun _ => none)))))), eL q3 (fun _ => 0)] := hD
  refine lv_aload_n hx hb dX4_init_32 rfl (lv_at hl 0 rfl) ?_
  refine lv_ldc hx hb hown (hts (.constant RX4 26 (20260101)) (by decide +kernel)) dX4_init_33 ?_
  refine va_put (D := D) (ci := 3) (v := .int 20260101) (ty := .int) (C := RX4) (T := TX4) (N := 8) hx hb hts inX4_init_X4 tyX4 tyX4_ok nmX4 hown hK hP hD hS 0 rfl rfl 5 (by decide) (hts (.fieldLink RX4 27 "BondDesk" "today" "I") (by decide +kernel)) (fun _ h9 => h9) rfl (by decide +kernel) rfl rfl (Nat.le_of_ble_eq_true rfl) dX4_init_35 (fun H locs hP hD hS => ?_)
  have hP : va_P D vwCl [eKr qk (.ref q1) (.ref q2) (.ref q3) (va_up (fun _ => 0) 5 (20260101 : Int32)) 0, (q1, .inl (cI, 30, .inl (fun _ => 0))), (q2, .inl (cO, 10, .inr (.inr (.inr (.inr (fun _ => none)))))), eL q3 (fun _ => 0)] H := hP
  have hD : va_D A [eKr qk (.ref q1) (.ref q2) (.ref q3) (va_up (fun _ => 0) 5 (20260101 : Int32)) 0, (q1, .inl (cI, 30, .inl (fun _ => 0))), (q2, .inl (cO, 10, .inr (.inr (.inr (.inr (fun _ => none)))))), eL q3 (fun _ => 0)] := hD
  refine lv_aload_n hx hb dX4_init_38 rfl (lv_at hl 0 rfl) ?_
  refine lv_ldc2 hx hb hown (hts (.constantLong RX4 31 (200000000)) (by decide +kernel)) dX4_init_39 ?_
  refine va_put (D := D) (ci := 3) (v := .long 200000000) (ty := .long) (C := RX4) (T := TX4) (N := 8) hx hb hts inX4_init_X4 tyX4 tyX4_ok nmX4 hown hK hP hD hS 0 rfl rfl 6 (by decide) (hts (.fieldLink RX4 33 "BondDesk" "cash" "J") (by decide +kernel)) (fun _ h9 => h9) rfl (by decide +kernel) rfl rfl (Nat.le_of_ble_eq_true rfl) dX4_init_42 (fun H locs hP hD hS => ?_)
  have hP : va_P D vwCl [eKr qk (.ref q1) (.ref q2) (.ref q3) (va_up (fun _ => 0) 5 (20260101 : Int32)) (200000000 : Int64), (q1, .inl (cI, 30, .inl (fun _ => 0))), (q2, .inl (cO, 10, .inr (.inr (.inr (.inr (fun _ => none)))))), eL q3 (fun _ => 0)] H := hP
  have hD : va_D A [eKr qk (.ref q1) (.ref q2) (.ref q3) (va_up (fun _ => 0) 5 (20260101 : Int32)) (200000000 : Int64), (q1, .inl (cI, 30, .inl (fun _ => 0))), (q2, .inl (cO, 10, .inr (.inr (.inr (.inr (fun _ => none)))))), eL q3 (fun _ => 0)] := hD
  refine lv_aload_n hx hb dX4_init_45 rfl (lv_at hl 0 rfl) ?_
  refine lv_sipush (v := 300) hx hb dX4_init_46 (by decide) ?_
  refine va_put (D := D) (ci := 3) (v := .int 300) (ty := .int) (C := RX4) (T := TX4) (N := 8) hx hb hts inX4_init_X4 tyX4 tyX4_ok nmX4 hown hK hP hD hS 0 rfl rfl 7 (by decide) (hts (.fieldLink RX4 37 "BondDesk" "refinancing" "I") (by decide +kernel)) (fun _ h9 => h9) rfl (by decide +kernel) rfl rfl (Nat.le_of_ble_eq_true rfl) dX4_init_49 (fun H locs hP hD hS => ?_)
  have hP : va_P D vwCl [eKr qk (.ref q1) (.ref q2) (.ref q3) (va_up (va_up (fun _ => 0) 5 (20260101 : Int32)) 7 (300 : Int32)) (200000000 : Int64), (q1, .inl (cI, 30, .inl (fun _ => 0))), (q2, .inl (cO, 10, .inr (.inr (.inr (.inr (fun _ => none)))))), eL q3 (fun _ => 0)] H := hP
  have hD : va_D A [eKr qk (.ref q1) (.ref q2) (.ref q3) (va_up (va_up (fun _ => 0) 5 (20260101 : Int32)) 7 (300 : Int32)) (200000000 : Int64), (q1, .inl (cI, 30, .inl (fun _ => 0))), (q2, .inl (cO, 10, .inr (.inr (.inr (.inr (fun _ => none)))))), eL q3 (fun _ => 0)] := hD
  refine W.widen (k := 3) (n := 44) (Nat.le_of_ble_eq_true rfl) (Nat.le_of_ble_eq_true rfl) ?_
  have e9 := Option.some.inj hf
  subst e9
  exact W.vret hx hb hr (fun t ht hW => ⟨⟨(q1, q2, q3), rfl, trivial, by rw [ht]; exact hP, hD⟩, hS.F ht⟩) hS.2.2 dX4_init_52
