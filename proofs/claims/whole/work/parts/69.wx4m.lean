theorem inX4_setSink_X0 : ∀ w ∈ wsX00, w ∈ wsX4_setSink := by decide +kernel
theorem inX4_setSink_X3 : ∀ w ∈ wsX30, w ∈ wsX4_setSink := by decide +kernel
theorem atX4_setSink_48 : ∀ w ∈ (vx_atS RX4 48 "java/lang/IllegalArgumentException" ["java/lang/RuntimeException", "java/lang/Exception"]).filter goodWord, w ∈ wsX4_setSink := by decide +kernel
set_option maxHeartbeats 4000000 in
set_option maxRecDepth 100000 in
theorem m_X4_setSink (l : Launch) (D : va_G) (cI cJ cO : ClassId) (ah : Nat) (qk : Nat) (qh : Nat) (qb : Nat) (ql : Nat) (ab : Nat → Nat) (as_ : Nat → Nat) (ad : Nat → Nat) (K : Nat → Int32) (kc : Int64) (hol : Nat → Int32) (LG : Nat → Int64) (nb : Nat) (bB : Nat → Nat → Int32) (bS : Nat → Nat → Int32) (bT : Nat → Nat → Int64) (bn : Nat → Nat) (bds : Nat → Nat → Int32) (sz : Nat) (a0 : Int32) (a1 : Int32) (a2 : Int32) (N : Nat) (r : (Int32 × (Nat → Int32)) ⊕ String) (hl0 : l.stackTraces = false) (hf : f_X4_setSink N nb bB bn bds a0 a1 a2 = some r) : vx_Met l yX4_setSink wsX4_setSink ({ frames := 7, cells := 3, slots := 18, locals := 104 }) (va_Pc [.ref qk, .int a0, .int a1, .int a2] (tP D (ty3 cI cJ cO) (some ah) [eK qk qh qb ql K kc, eG cI qh hol, eF cO qb nb ab, eL ql LG, eD cI (ad a0.toNatClampNeg) (bn a0.toNatClampNeg) (bds a0.toNatClampNeg), eS (as_ a0.toNatClampNeg) (ad a0.toNatClampNeg) (bS a0.toNatClampNeg) (bT a0.toNatClampNeg), eB (ab a0.toNatClampNeg) (as_ a0.toNatClampNeg) (bB a0.toNatClampNeg)] sz)) (tQi D (va_A [eK qk qh qb ql K kc, eG cI qh hol, eF cO qb nb ab, eL ql LG, eD cI (ad a0.toNatClampNeg) (bn a0.toNatClampNeg) (bds a0.toNatClampNeg), eS (as_ a0.toNatClampNeg) (ad a0.toNatClampNeg) (bS a0.toNatClampNeg) (bT a0.toNatClampNeg), eB (ab a0.toNatClampNeg) (as_ a0.toNatClampNeg) (bB a0.toNatClampNeg)] sz) r (fun u => u.1) (fun u => [eK qk qh qb ql K kc, eG cI qh hol, eF cO qb nb ab, eL ql LG, eD cI (ad a0.toNatClampNeg) (bn a0.toNatClampNeg) (bds a0.toNatClampNeg), eS (as_ a0.toNatClampNeg) (ad a0.toNatClampNeg) (bS a0.toNatClampNeg) (bT a0.toNatClampNeg), eB (ab a0.toNatClampNeg) (as_ a0.toNatClampNeg) u.2])) (XT r) 3 18 (va_A [eK qk qh qb ql K kc, eG cI qh hol, eF cO qb nb ab, eL ql LG, eD cI (ad a0.toNatClampNeg) (bn a0.toNatClampNeg) (bds a0.toNatClampNeg), eS (as_ a0.toNatClampNeg) (ad a0.toNatClampNeg) (bS a0.toNatClampNeg) (bT a0.toNatClampNeg), eB (ab a0.toNatClampNeg) (as_ a0.toNatClampNeg) (bB a0.toNatClampNeg)] sz) := by
  refine vx_ofW (cc := cX4_setSink) (maxL := 5) (ret := (some .int)) (by decide) rfl ?_
  intro p e s m args below meth c s₁ Bd hml hte hv
  obtain ⟨rfl, ⟨hsz, hZ, hP, hK, hD0⟩, hT⟩ := hv
  have hx := Bd.exec
  have hb := Bd.bytes
  have hr := Bd.returns
  have hts := atoms_spec (ws := wsX4_setSink) Bd.pre
  have hown : s.vm.findClass RX4 = some m.cls := findClass_of_methodNamed Bd.named
  have hlocks := Bd.notSynchronized
  subst hsz
  have hD := hD0.self (sz := s.heap.size)
  generalize hAe : va_A [eK qk qh qb ql K kc, eG cI qh hol, eF cO qb nb ab, eL ql LG, eD cI (ad a0.toNatClampNeg) (bn a0.toNatClampNeg) (bds a0.toNatClampNeg), eS (as_ a0.toNatClampNeg) (ad a0.toNatClampNeg) (bS a0.toNatClampNeg) (bT a0.toNatClampNeg), eB (ab a0.toNatClampNeg) (as_ a0.toNatClampNeg) (bB a0.toNatClampNeg)] s.heap.size = A at hD hZ hT ⊢
  have hA : ∀ q : Nat, s.heap.size ≤ q → A q := fun q h => by rw [← hAe]; exact Or.inr h
  have hS : va_S A s.heap s.heap [] := va_S.rf
  have hl := lv_entry ([.ref qk, .int a0, .int a1, .int a2]) (n := 5) (Nat.le_of_ble_eq_true rfl)
  rw [lg_entry_eq]
  generalize (lg_sl ([.ref qk, .int a0, .int a1, .int a2]) ++ List.replicate (5 - (lg_sl ([.ref qk, .int a0, .int a1, .int a2])).length) Slot.unset).toArray = ls at hl ⊢
  have hl : lv_has ls 5 [(0, .ref qk), (1, .int a0), (2, .int a1), (3, .int a2)] := hl
  unfold f_X4_setSink at hf
  refine lv_aload_n hx hb dX4_setSink_0 rfl (lv_at hl 0 rfl) ?_
  refine lv_iload_n hx hb dX4_setSink_1 rfl (lv_at hl 1 rfl) ?_
  obtain ⟨v1, hv1, hf⟩ := exs hf
  refine xSr (ad := ab) (vx_runV (As := [.int a0]) (rest := []) ⟨hx, hb, hml, hown, hts⟩ (m_X4_bondNumbered l D cI cJ cO ah qk qh qb ql ab K kc hol LG nb a0 v1 hl0 hv1) (cwV 1 hts gX4_setSink_X4_bondNumbered rfl rfl rfl (by decide +kernel) ⟨(Nat.le_of_ble_eq_true rfl), (Nat.le_of_ble_eq_true rfl)⟩) ⟨pT_blind, va_recv hK hP (ci := 3) (q0 := 0) rfl rfl, fun U hU hW => ⟨rfl, pw_at hZ hS hP hK hU hW (Or.inr rfl) [0, 1, 2, 3] rfl, pX_at hT hS hU hW⟩⟩ rfl rfl hl.1 rfl (lv_room (Nat.le_of_ble_eq_true rfl)) dX4_setSink_2 ⟨(Nat.le_of_ble_eq_true rfl), (Nat.le_of_ble_eq_true rfl)⟩) (fun E ce q9 H1 locs1 hE hz9 hk9 hS9 hc9 hv9 hl9 => vx_widen (k := 3) (n := 18) (Nat.le_of_ble_eq_true rfl) (Nat.le_of_ble_eq_true rfl) (vx_out (fun x h => (hte x h).elim) hlocks hc9 hv9 hl9 (fun t ht _ => ⟨ex_r hf hE, by rw [ht]; exact hz9, fun q h3 _ => by rw [ht]; exact hk9 q h3⟩) (fun z hz => absurd hz (by rw [hS9]; exact List.not_mem_nil)) (Nat.le_refl _) (Nat.le_refl _))) (fun v2 ev2 => ?_)
  have hf := ex_l hf ev2
  have q9 := eq_X4_bondNumbered hv1 ev2
  subst q9
  refine lv_astore (lv' := [(4, .ref (ab a0.toNatClampNeg)), (0, .ref qk), (1, .int a0), (2, .int a1), (3, .int a2)]) hx hb dX4_setSink_5 hl (by decide) rfl (fun ls hl => ?_)
  refine lv_iload_n hx hb dX4_setSink_7 rfl (lv_at hl 3 rfl) ?_
  obtain ⟨v3, hv3, hf⟩ := exs hf
  refine xSv (vx_runS (As := [.int a1]) (rest := []) ⟨hx, hb, hml, hown, hts⟩ (m_X4_requireDate l D cI cJ cO ah a1 v3 hl0 hv3) (va_cwS 1 hts gX4_setSink_X4_requireDate rfl rfl rfl (by decide +kernel) ⟨(Nat.le_of_ble_eq_true rfl), (Nat.le_of_ble_eq_true rfl)⟩) ⟨pT_blind, fun U hU hW => ⟨rfl, pw_at hZ hS hP hK hU hW (Or.inr rfl) [] rfl, pX_at hT hS hU hW⟩⟩ rfl rfl hl.1 rfl (lv_room (Nat.le_of_ble_eq_true rfl)) dX4_setSink_8 ⟨(Nat.le_of_ble_eq_true rfl), (Nat.le_of_ble_eq_true rfl)⟩) (fun E ce q9 H1 locs1 hE hz9 hk9 hS9 hc9 hv9 hl9 => vx_widen (k := 3) (n := 18) (Nat.le_of_ble_eq_true rfl) (Nat.le_of_ble_eq_true rfl) (vx_out (fun x h => (hte x h).elim) hlocks hc9 hv9 hl9 (fun t ht _ => ⟨ex_r hf hE, by rw [ht]; exact hz9, fun q h3 _ => by rw [ht]; exact hk9 q h3⟩) (fun z hz => absurd hz (by rw [hS9]; exact List.not_mem_nil)) (Nat.le_refl _) (Nat.le_refl _))) (fun v4 ev4 => ?_)
  have hf := ex_l hf ev4
  refine lv_iload_n hx hb dX4_setSink_11 rfl (lv_at hl 4 rfl) ?_
  refine lv_if_lt (tgt := 22) hx hb dX4_setSink_12 (by decide) (fun c5 => ?_) (fun c5 => ?_)
  · have hf := it hf c5
    obtain ⟨sa, hsa⟩ := hT.2.2.1 (129, "part is not 0 to 5000") (by decide +kernel)
    exact vx_throwS (names := ["java/lang/RuntimeException", "java/lang/Exception"]) (A := A) hx hb hl0 hown (by decide) (by decide) (hts (.classLink RX4 44 "java/lang/IllegalArgumentException") (by decide +kernel)) (hts (.initialized "java/lang/IllegalArgumentException") (by decide +kernel)) hsa (vx_hat (fun w hw => hts w (atX4_setSink_48 w hw)) thr_ng48 (fun w hw => va_any (thr_ot w hw) (hT.2.2.2 w hw))) (by decide +kernel) hT.1 hT.2.1 va_S.rf (hl.1.trans hml.symm) dX4_setSink_22 dX4_setSink_25 dX4_setSink_26 dX4_setSink_28 dX4_setSink_31 (fun x h => (hte x h).elim) (Nat.le_of_ble_eq_true rfl) (Nat.le_of_ble_eq_true rfl) (Nat.le_of_ble_eq_true rfl) (Nat.le_of_ble_eq_true rfl) hlocks (fun t _ h1 h2 => ⟨(Option.some.inj hf).symm, h1, fun q h3 _ => h2 q h3⟩) (fun z hz => absurd hz List.not_mem_nil) (Nat.le_of_ble_eq_true rfl) (Nat.le_of_ble_eq_true rfl)
  · have hf := ie hf c5
    refine lv_iload_n hx hb dX4_setSink_15 rfl (lv_at hl 4 rfl) ?_
    refine lv_sipush (v := 5000) hx hb dX4_setSink_16 (by decide) ?_
    refine lv_icmp_le (tgt := 32) hx hb dX4_setSink_19 (by decide) (fun c6 => ?_) (fun c6 => ?_)
    · have hf := it hf c6
      refine lv_aload hx hb dX4_setSink_32 (lv_at hl 0 rfl) ?_
      obtain ⟨v7, hv7, hf⟩ := exs hf
      refine xSv (vx_runS (As := [.ref (ab a0.toNatClampNeg)]) (rest := []) ⟨hx, hb, hml, hown, hts⟩ (m_X4_requireThere l D cI cJ cO ah (ab a0.toNatClampNeg) (as_ a0.toNatClampNeg) (ad a0.toNatClampNeg) (bB a0.toNatClampNeg) (bS a0.toNatClampNeg) (bT a0.toNatClampNeg) (bn a0.toNatClampNeg) (bds a0.toNatClampNeg) v7 hl0 hv7) (va_cwS 1 hts gX4_setSink_X4_requireThere rfl rfl rfl (by decide +kernel) ⟨(Nat.le_of_ble_eq_true rfl), (Nat.le_of_ble_eq_true rfl)⟩) ⟨pT_blind, fun U hU hW => ⟨rfl, pw_at hZ hS hP hK hU hW (Or.inr rfl) [4, 5, 6] rfl, pX_at hT hS hU hW⟩⟩ rfl rfl hl.1 rfl (lv_room (Nat.le_of_ble_eq_true rfl)) dX4_setSink_34 ⟨(Nat.le_of_ble_eq_true rfl), (Nat.le_of_ble_eq_true rfl)⟩) (fun E ce q9 H1 locs1 hE hz9 hk9 hS9 hc9 hv9 hl9 => vx_widen (k := 3) (n := 18) (Nat.le_of_ble_eq_true rfl) (Nat.le_of_ble_eq_true rfl) (vx_out (fun x h => (hte x h).elim) hlocks hc9 hv9 hl9 (fun t ht _ => ⟨ex_r hf hE, by rw [ht]; exact hz9, fun q h3 _ => by rw [ht]; exact hk9 q h3⟩) (fun z hz => absurd hz (by rw [hS9]; exact List.not_mem_nil)) (Nat.le_refl _) (Nat.le_refl _))) (fun v8 ev8 => ?_)
      have hf := ex_l hf ev8
      refine lv_aload hx hb dX4_setSink_37 (lv_at hl 0 rfl) ?_
      refine lv_iload_n hx hb dX4_setSink_39 rfl (lv_at hl 3 rfl) ?_
      refine va_put (D := D) (ci := 0) (v := .int a1) (ty := .int) (C := RX0) (T := TX0) (N := 9) hx hb hts inX4_setSink_X0 tyX0 tyX0_ok nmX0 hown hK hP hD hS 6 rfl rfl 5 (by decide) (hts (.fieldLink RX4 135 "BondDesk$Bond" "sinkFrom" "I") (by decide +kernel)) (fun _ h9 => h9) rfl (by decide +kernel) rfl rfl (Nat.le_of_ble_eq_true rfl) dX4_setSink_40 (fun H locs hP hD hS => ?_)
      have hP : va_P D vwCl [eK qk qh qb ql K kc, eG cI qh hol, eF cO qb nb ab, eL ql LG, eD cI (ad a0.toNatClampNeg) (bn a0.toNatClampNeg) (bds a0.toNatClampNeg), eS (as_ a0.toNatClampNeg) (ad a0.toNatClampNeg) (bS a0.toNatClampNeg) (bT a0.toNatClampNeg), eB (ab a0.toNatClampNeg) (as_ a0.toNatClampNeg) (va_up (bB a0.toNatClampNeg) 5 a1)] H := hP
      have hD : va_D A [eK qk qh qb ql K kc, eG cI qh hol, eF cO qb nb ab, eL ql LG, eD cI (ad a0.toNatClampNeg) (bn a0.toNatClampNeg) (bds a0.toNatClampNeg), eS (as_ a0.toNatClampNeg) (ad a0.toNatClampNeg) (bS a0.toNatClampNeg) (bT a0.toNatClampNeg), eB (ab a0.toNatClampNeg) (as_ a0.toNatClampNeg) (va_up (bB a0.toNatClampNeg) 5 a1)] := hD
      refine lv_aload hx hb dX4_setSink_43 (lv_at hl 0 rfl) ?_
      refine lv_iload_n hx hb dX4_setSink_45 rfl (lv_at hl 4 rfl) ?_
      refine va_put (D := D) (ci := 0) (v := .int a2) (ty := .int) (C := RX0) (T := TX0) (N := 9) hx hb hts inX4_setSink_X0 tyX0 tyX0_ok nmX0 hown hK hP hD hS 6 rfl rfl 6 (by decide) (hts (.fieldLink RX4 138 "BondDesk$Bond" "sinkPart" "I") (by decide +kernel)) (fun _ h9 => h9) rfl (by decide +kernel) rfl rfl (Nat.le_of_ble_eq_true rfl) dX4_setSink_46 (fun H locs hP hD hS => ?_)
      have hP : va_P D vwCl [eK qk qh qb ql K kc, eG cI qh hol, eF cO qb nb ab, eL ql LG, eD cI (ad a0.toNatClampNeg) (bn a0.toNatClampNeg) (bds a0.toNatClampNeg), eS (as_ a0.toNatClampNeg) (ad a0.toNatClampNeg) (bS a0.toNatClampNeg) (bT a0.toNatClampNeg), eB (ab a0.toNatClampNeg) (as_ a0.toNatClampNeg) (va_up (va_up (bB a0.toNatClampNeg) 5 a1) 6 a2)] H := hP
      have hD : va_D A [eK qk qh qb ql K kc, eG cI qh hol, eF cO qb nb ab, eL ql LG, eD cI (ad a0.toNatClampNeg) (bn a0.toNatClampNeg) (bds a0.toNatClampNeg), eS (as_ a0.toNatClampNeg) (ad a0.toNatClampNeg) (bS a0.toNatClampNeg) (bT a0.toNatClampNeg), eB (ab a0.toNatClampNeg) (as_ a0.toNatClampNeg) (va_up (va_up (bB a0.toNatClampNeg) 5 a1) 6 a2)] := hD
      refine lv_aload hx hb dX4_setSink_49 (lv_at hl 0 rfl) ?_
      refine lv_aload hx hb dX4_setSink_51 (lv_at hl 0 rfl) ?_
      refine va_get (D := D) (ci := 0) (v := .ref (as_ a0.toNatClampNeg)) (C := RX0) (T := TX0) (N := 9) hx hb hts inX4_setSink_X0 hown hK hP 6 rfl rfl 0 (by decide) (hts (.fieldLink RX4 141 "BondDesk$Bond" "schedule" "LBondDesk$Schedule;") (by decide +kernel)) (fun _ h9 => h9) rfl dX4_setSink_53 ?_
      refine va_get (D := D) (ci := 2) (v := .ref (ad a0.toNatClampNeg)) (C := RX3) (T := TX3) (N := 9) hx hb hts inX4_setSink_X3 hown hK hP 5 rfl rfl 6 (by decide) (hts (.fieldLink RX4 145 "BondDesk$Schedule" "dates" "[I") (by decide +kernel)) (fun _ h9 => h9) rfl dX4_setSink_56 ?_
      refine va_alen (v := nI (bn a0.toNatClampNeg)) hx hb hK hP 4 0 rfl rfl rfl dX4_setSink_59 ?_
      refine lv_iconst (v := 1) hx hb dX4_setSink_60 (by decide) ?_
      refine lv_isub hx hb dX4_setSink_61 ?_
      obtain ⟨v9, hv9, hf⟩ := ob hf
      refine cSi (W.runV (As := [.int ((nI (bn a0.toNatClampNeg)) - 1)]) (rest := []) ⟨hx, hb, hml, hown, hts⟩ (m_X0_factorBehind l D cI cJ cO ah (ab a0.toNatClampNeg) (as_ a0.toNatClampNeg) (ad a0.toNatClampNeg) (va_up (va_up (bB a0.toNatClampNeg) 5 a1) 6 a2) (bS a0.toNatClampNeg) (bT a0.toNatClampNeg) (bn a0.toNatClampNeg) (bds a0.toNatClampNeg) ((nI (bn a0.toNatClampNeg)) - 1) N v9 hv9) (cwV 1 hts gX4_setSink_X0_factorBehind rfl rfl rfl (by decide +kernel) ⟨(Nat.le_of_ble_eq_true rfl), (Nat.le_of_ble_eq_true rfl)⟩) ⟨pw_blind, va_recv hK hP (ci := 0) (q0 := 6) rfl rfl, fun U hU hW => ⟨rfl, pw_at hZ hS hP hK hU hW (Or.inr rfl) [4, 5, 6] rfl⟩⟩ rfl rfl hl.1 rfl (lv_room (Nat.le_of_ble_eq_true rfl)) dX4_setSink_62 ⟨(Nat.le_of_ble_eq_true rfl), (Nat.le_of_ble_eq_true rfl)⟩) ?_
      refine vx_ret ?_
      refine W.widen (k := 3) (n := 18) (Nat.le_of_ble_eq_true rfl) (Nat.le_of_ble_eq_true rfl) ?_
      have e9 := Option.some.inj hf
      subst e9
      exact W.iret hx hb hr (fun t ht hW => ⟨_, rfl, rfl, by rw [ht]; exact hP, hD, hS.F ht⟩) hS.2.2 dX4_setSink_65
    · have hf := ie hf c6
      obtain ⟨sa, hsa⟩ := hT.2.2.1 (129, "part is not 0 to 5000") (by decide +kernel)
      exact vx_throwS (names := ["java/lang/RuntimeException", "java/lang/Exception"]) (A := A) hx hb hl0 hown (by decide) (by decide) (hts (.classLink RX4 44 "java/lang/IllegalArgumentException") (by decide +kernel)) (hts (.initialized "java/lang/IllegalArgumentException") (by decide +kernel)) hsa (vx_hat (fun w hw => hts w (atX4_setSink_48 w hw)) thr_ng48 (fun w hw => va_any (thr_ot w hw) (hT.2.2.2 w hw))) (by decide +kernel) hT.1 hT.2.1 va_S.rf (hl.1.trans hml.symm) dX4_setSink_22 dX4_setSink_25 dX4_setSink_26 dX4_setSink_28 dX4_setSink_31 (fun x h => (hte x h).elim) (Nat.le_of_ble_eq_true rfl) (Nat.le_of_ble_eq_true rfl) (Nat.le_of_ble_eq_true rfl) (Nat.le_of_ble_eq_true rfl) hlocks (fun t _ h1 h2 => ⟨(Option.some.inj hf).symm, h1, fun q h3 _ => h2 q h3⟩) (fun z hz => absurd hz List.not_mem_nil) (Nat.le_of_ble_eq_true rfl) (Nat.le_of_ble_eq_true rfl)
theorem inX4_setCall_X0 : ∀ w ∈ wsX00, w ∈ wsX4_setCall := by decide +kernel
theorem atX4_setCall_48 : ∀ w ∈ (vx_atS RX4 48 "java/lang/IllegalArgumentException" ["java/lang/RuntimeException", "java/lang/Exception"]).filter goodWord, w ∈ wsX4_setCall := by decide +kernel
set_option maxHeartbeats 4000000 in
set_option maxRecDepth 100000 in
theorem m_X4_setCall (l : Launch) (D : va_G) (cI cJ cO : ClassId) (ah : Nat) (qk : Nat) (qh : Nat) (qb : Nat) (ql : Nat) (ab : Nat → Nat) (as_ : Nat → Nat) (ad : Nat → Nat) (K : Nat → Int32) (kc : Int64) (hol : Nat → Int32) (LG : Nat → Int64) (nb : Nat) (bB : Nat → Nat → Int32) (bS : Nat → Nat → Int32) (bT : Nat → Nat → Int64) (bn : Nat → Nat) (bds : Nat → Nat → Int32) (sz : Nat) (a0 : Int32) (a1 : Int32) (a2 : Int32) (N : Nat) (r : (Int32 × (Nat → Int32)) ⊕ String) (hl0 : l.stackTraces = false) (hf : f_X4_setCall N nb bB bn bds a0 a1 a2 = some r) : vx_Met l yX4_setCall wsX4_setCall ({ frames := 7, cells := 3, slots := 18, locals := 104 }) (va_Pc [.ref qk, .int a0, .int a1, .int a2] (tP D (ty3 cI cJ cO) (some ah) [eK qk qh qb ql K kc, eG cI qh hol, eF cO qb nb ab, eL ql LG, eD cI (ad a0.toNatClampNeg) (bn a0.toNatClampNeg) (bds a0.toNatClampNeg), eS (as_ a0.toNatClampNeg) (ad a0.toNatClampNeg) (bS a0.toNatClampNeg) (bT a0.toNatClampNeg), eB (ab a0.toNatClampNeg) (as_ a0.toNatClampNeg) (bB a0.toNatClampNeg)] sz)) (tQi D (va_A [eK qk qh qb ql K kc, eG cI qh hol, eF cO qb nb ab, eL ql LG, eD cI (ad a0.toNatClampNeg) (bn a0.toNatClampNeg) (bds a0.toNatClampNeg), eS (as_ a0.toNatClampNeg) (ad a0.toNatClampNeg) (bS a0.toNatClampNeg) (bT a0.toNatClampNeg), eB (ab a0.toNatClampNeg) (as_ a0.toNatClampNeg) (bB a0.toNatClampNeg)] sz) r (fun u => u.1) (fun u => [eK qk qh qb ql K kc, eG cI qh hol, eF cO qb nb ab, eL ql LG, eD cI (ad a0.toNatClampNeg) (bn a0.toNatClampNeg) (bds a0.toNatClampNeg), eS (as_ a0.toNatClampNeg) (ad a0.toNatClampNeg) (bS a0.toNatClampNeg) (bT a0.toNatClampNeg), eB (ab a0.toNatClampNeg) (as_ a0.toNatClampNeg) u.2])) (XT r) 3 18 (va_A [eK qk qh qb ql K kc, eG cI qh hol, eF cO qb nb ab, eL ql LG, eD cI (ad a0.toNatClampNeg) (bn a0.toNatClampNeg) (bds a0.toNatClampNeg), eS (as_ a0.toNatClampNeg) (ad a0.toNatClampNeg) (bS a0.toNatClampNeg) (bT a0.toNatClampNeg), eB (ab a0.toNatClampNeg) (as_ a0.toNatClampNeg) (bB a0.toNatClampNeg)] sz) := by
  refine vx_ofW (cc := cX4_setCall) (maxL := 5) (ret := (some .int)) (by decide) rfl ?_
  intro p e s m args below meth c s₁ Bd hml hte hv
  obtain ⟨rfl, ⟨hsz, hZ, hP, hK, hD0⟩, hT⟩ := hv
  have hx := Bd.exec
  have hb := Bd.bytes
  have hr := Bd.returns
  have hts := atoms_spec (ws := wsX4_setCall) Bd.pre
  have hown : s.vm.findClass RX4 = some m.cls := findClass_of_methodNamed Bd.named
  have hlocks := Bd.notSynchronized
  subst hsz
  have hD := hD0.self (sz := s.heap.size)
  generalize hAe : va_A [eK qk qh qb ql K kc, eG cI qh hol, eF cO qb nb ab, eL ql LG, eD cI (ad a0.toNatClampNeg) (bn a0.toNatClampNeg) (bds a0.toNatClampNeg), eS (as_ a0.toNatClampNeg) (ad a0.toNatClampNeg) (bS a0.toNatClampNeg) (bT a0.toNatClampNeg), eB (ab a0.toNatClampNeg) (as_ a0.toNatClampNeg) (bB a0.toNatClampNeg)] s.heap.size = A at hD hZ hT ⊢
  have hA : ∀ q : Nat, s.heap.size ≤ q → A q := fun q h => by rw [← hAe]; exact Or.inr h
  have hS : va_S A s.heap s.heap [] := va_S.rf
  have hl := lv_entry ([.ref qk, .int a0, .int a1, .int a2]) (n := 5) (Nat.le_of_ble_eq_true rfl)
  rw [lg_entry_eq]
  generalize (lg_sl ([.ref qk, .int a0, .int a1, .int a2]) ++ List.replicate (5 - (lg_sl ([.ref qk, .int a0, .int a1, .int a2])).length) Slot.unset).toArray = ls at hl ⊢
  have hl : lv_has ls 5 [(0, .ref qk), (1, .int a0), (2, .int a1), (3, .int a2)] := hl
  unfold f_X4_setCall at hf
  refine lv_aload_n hx hb dX4_setCall_0 rfl (lv_at hl 0 rfl) ?_
  refine lv_iload_n hx hb dX4_setCall_1 rfl (lv_at hl 1 rfl) ?_
  obtain ⟨v1, hv1, hf⟩ := exs hf
  refine xSr (ad := ab) (vx_runV (As := [.int a0]) (rest := []) ⟨hx, hb, hml, hown, hts⟩ (m_X4_bondNumbered l D cI cJ cO ah qk qh qb ql ab K kc hol LG nb a0 v1 hl0 hv1) (cwV 1 hts gX4_setCall_X4_bondNumbered rfl rfl rfl (by decide +kernel) ⟨(Nat.le_of_ble_eq_true rfl), (Nat.le_of_ble_eq_true rfl)⟩) ⟨pT_blind, va_recv hK hP (ci := 3) (q0 := 0) rfl rfl, fun U hU hW => ⟨rfl, pw_at hZ hS hP hK hU hW (Or.inr rfl) [0, 1, 2, 3] rfl, pX_at hT hS hU hW⟩⟩ rfl rfl hl.1 rfl (lv_room (Nat.le_of_ble_eq_true rfl)) dX4_setCall_2 ⟨(Nat.le_of_ble_eq_true rfl), (Nat.le_of_ble_eq_true rfl)⟩) (fun E ce q9 H1 locs1 hE hz9 hk9 hS9 hc9 hv9 hl9 => vx_widen (k := 3) (n := 18) (Nat.le_of_ble_eq_true rfl) (Nat.le_of_ble_eq_true rfl) (vx_out (fun x h => (hte x h).elim) hlocks hc9 hv9 hl9 (fun t ht _ => ⟨ex_r hf hE, by rw [ht]; exact hz9, fun q h3 _ => by rw [ht]; exact hk9 q h3⟩) (fun z hz => absurd hz (by rw [hS9]; exact List.not_mem_nil)) (Nat.le_refl _) (Nat.le_refl _))) (fun v2 ev2 => ?_)
  have hf := ex_l hf ev2
  have q9 := eq_X4_bondNumbered hv1 ev2
  subst q9
  refine lv_astore (lv' := [(4, .ref (ab a0.toNatClampNeg)), (0, .ref qk), (1, .int a0), (2, .int a1), (3, .int a2)]) hx hb dX4_setCall_5 hl (by decide) rfl (fun ls hl => ?_)
  refine lv_iload_n hx hb dX4_setCall_7 rfl (lv_at hl 3 rfl) ?_
  obtain ⟨v3, hv3, hf⟩ := exs hf
  refine xSv (vx_runS (As := [.int a1]) (rest := []) ⟨hx, hb, hml, hown, hts⟩ (m_X4_requireDate l D cI cJ cO ah a1 v3 hl0 hv3) (va_cwS 1 hts gX4_setCall_X4_requireDate rfl rfl rfl (by decide +kernel) ⟨(Nat.le_of_ble_eq_true rfl), (Nat.le_of_ble_eq_true rfl)⟩) ⟨pT_blind, fun U hU hW => ⟨rfl, pw_at hZ hS hP hK hU hW (Or.inr rfl) [] rfl, pX_at hT hS hU hW⟩⟩ rfl rfl hl.1 rfl (lv_room (Nat.le_of_ble_eq_true rfl)) dX4_setCall_8 ⟨(Nat.le_of_ble_eq_true rfl), (Nat.le_of_ble_eq_true rfl)⟩) (fun E ce q9 H1 locs1 hE hz9 hk9 hS9 hc9 hv9 hl9 => vx_widen (k := 3) (n := 18) (Nat.le_of_ble_eq_true rfl) (Nat.le_of_ble_eq_true rfl) (vx_out (fun x h => (hte x h).elim) hlocks hc9 hv9 hl9 (fun t ht _ => ⟨ex_r hf hE, by rw [ht]; exact hz9, fun q h3 _ => by rw [ht]; exact hk9 q h3⟩) (fun z hz => absurd hz (by rw [hS9]; exact List.not_mem_nil)) (Nat.le_refl _) (Nat.le_refl _))) (fun v4 ev4 => ?_)
  have hf := ex_l hf ev4
  refine lv_iload_n hx hb dX4_setCall_11 rfl (lv_at hl 4 rfl) ?_
  obtain ⟨K5, hK5, hf⟩ := jn_s hf
  have JK5 : ∀  (ls : Array Slot), lv_has ls 5 [(2, .int a1), (3, .int a2), (4, .ref (ab a0.toNatClampNeg))] → K5 () = some r → W p l e (headSpec wsX4_setCall ({ frames := 7, cells := 3, slots := 18, locals := 104 })).room s m ([.ref qk, .int a0, .int a1, .int a2] : List Value).toArray below meth c s.heap [] 2 12 (vx_MQ below (tQi D A r (fun u => u.1) (fun u => [eK qk qh qb ql K kc, eG cI qh hol, eF cO qb nb ab, eL ql LG, eD cI (ad a0.toNatClampNeg) (bn a0.toNatClampNeg) (bds a0.toNatClampNeg), eS (as_ a0.toNatClampNeg) (ad a0.toNatClampNeg) (bS a0.toNatClampNeg) (bT a0.toNatClampNeg), eB (ab a0.toNatClampNeg) (as_ a0.toNatClampNeg) u.2])) (XT r) ([.ref qk, .int a0, .int a1, .int a2] : List Value).toArray s 3 18 A) (F0 m 39 ls []) := by
    intro  ls hl hf
    rw [hK5] at hf
    refine lv_aload hx hb dX4_setCall_39 (lv_at hl 2 rfl) ?_
    obtain ⟨v6, hv6, hf⟩ := exs hf
    refine xSv (vx_runS (As := [.ref (ab a0.toNatClampNeg)]) (rest := []) ⟨hx, hb, hml, hown, hts⟩ (m_X4_requireThere l D cI cJ cO ah (ab a0.toNatClampNeg) (as_ a0.toNatClampNeg) (ad a0.toNatClampNeg) (bB a0.toNatClampNeg) (bS a0.toNatClampNeg) (bT a0.toNatClampNeg) (bn a0.toNatClampNeg) (bds a0.toNatClampNeg) v6 hl0 hv6) (va_cwS 1 hts gX4_setCall_X4_requireThere rfl rfl rfl (by decide +kernel) ⟨(Nat.le_of_ble_eq_true rfl), (Nat.le_of_ble_eq_true rfl)⟩) ⟨pT_blind, fun U hU hW => ⟨rfl, pw_at hZ hS hP hK hU hW (Or.inr rfl) [4, 5, 6] rfl, pX_at hT hS hU hW⟩⟩ rfl rfl hl.1 rfl (lv_room (Nat.le_of_ble_eq_true rfl)) dX4_setCall_41 ⟨(Nat.le_of_ble_eq_true rfl), (Nat.le_of_ble_eq_true rfl)⟩) (fun E ce q9 H1 locs1 hE hz9 hk9 hS9 hc9 hv9 hl9 => vx_widen (k := 3) (n := 18) (Nat.le_of_ble_eq_true rfl) (Nat.le_of_ble_eq_true rfl) (vx_out (fun x h => (hte x h).elim) hlocks hc9 hv9 hl9 (fun t ht _ => ⟨ex_r hf hE, by rw [ht]; exact hz9, fun q h3 _ => by rw [ht]; exact hk9 q h3⟩) (fun z hz => absurd hz (by rw [hS9]; exact List.not_mem_nil)) (Nat.le_refl _) (Nat.le_refl _))) (fun v7 ev7 => ?_)
    have hf := ex_l hf ev7
    refine lv_aload hx hb dX4_setCall_44 (lv_at hl 2 rfl) ?_
    refine lv_iload_n hx hb dX4_setCall_46 rfl (lv_at hl 0 rfl) ?_
    refine va_put (D := D) (ci := 0) (v := .int a1) (ty := .int) (C := RX0) (T := TX0) (N := 9) hx hb hts inX4_setCall_X0 tyX0 tyX0_ok nmX0 hown hK hP hD hS 6 rfl rfl 7 (by decide) (hts (.fieldLink RX4 153 "BondDesk$Bond" "callFrom" "I") (by decide +kernel)) (fun _ h9 => h9) rfl (by decide +kernel) rfl rfl (Nat.le_of_ble_eq_true rfl) dX4_setCall_47 (fun H locs hP hD hS => ?_)
    have hP : va_P D vwCl [eK qk qh qb ql K kc, eG cI qh hol, eF cO qb nb ab, eL ql LG, eD cI (ad a0.toNatClampNeg) (bn a0.toNatClampNeg) (bds a0.toNatClampNeg), eS (as_ a0.toNatClampNeg) (ad a0.toNatClampNeg) (bS a0.toNatClampNeg) (bT a0.toNatClampNeg), eB (ab a0.toNatClampNeg) (as_ a0.toNatClampNeg) (va_up (bB a0.toNatClampNeg) 7 a1)] H := hP
    have hD : va_D A [eK qk qh qb ql K kc, eG cI qh hol, eF cO qb nb ab, eL ql LG, eD cI (ad a0.toNatClampNeg) (bn a0.toNatClampNeg) (bds a0.toNatClampNeg), eS (as_ a0.toNatClampNeg) (ad a0.toNatClampNeg) (bS a0.toNatClampNeg) (bT a0.toNatClampNeg), eB (ab a0.toNatClampNeg) (as_ a0.toNatClampNeg) (va_up (bB a0.toNatClampNeg) 7 a1)] := hD
    refine lv_aload hx hb dX4_setCall_50 (lv_at hl 2 rfl) ?_
    refine lv_iload_n hx hb dX4_setCall_52 rfl (lv_at hl 1 rfl) ?_
    refine va_put (D := D) (ci := 0) (v := .int a2) (ty := .int) (C := RX0) (T := TX0) (N := 9) hx hb hts inX4_setCall_X0 tyX0 tyX0_ok nmX0 hown hK hP hD hS 6 rfl rfl 8 (by decide) (hts (.fieldLink RX4 156 "BondDesk$Bond" "callPrice" "I") (by decide +kernel)) (fun _ h9 => h9) rfl (by decide +kernel) rfl rfl (Nat.le_of_ble_eq_true rfl) dX4_setCall_53 (fun H locs hP hD hS => ?_)
    have hP : va_P D vwCl [eK qk qh qb ql K kc, eG cI qh hol, eF cO qb nb ab, eL ql LG, eD cI (ad a0.toNatClampNeg) (bn a0.toNatClampNeg) (bds a0.toNatClampNeg), eS (as_ a0.toNatClampNeg) (ad a0.toNatClampNeg) (bS a0.toNatClampNeg) (bT a0.toNatClampNeg), eB (ab a0.toNatClampNeg) (as_ a0.toNatClampNeg) (va_up (va_up (bB a0.toNatClampNeg) 7 a1) 8 a2)] H := hP
    have hD : va_D A [eK qk qh qb ql K kc, eG cI qh hol, eF cO qb nb ab, eL ql LG, eD cI (ad a0.toNatClampNeg) (bn a0.toNatClampNeg) (bds a0.toNatClampNeg), eS (as_ a0.toNatClampNeg) (ad a0.toNatClampNeg) (bS a0.toNatClampNeg) (bT a0.toNatClampNeg), eB (ab a0.toNatClampNeg) (as_ a0.toNatClampNeg) (va_up (va_up (bB a0.toNatClampNeg) 7 a1) 8 a2)] := hD
    refine lv_aload hx hb dX4_setCall_56 (lv_at hl 2 rfl) ?_
    obtain ⟨v8, hv8, hf⟩ := ob hf
    refine cSi (W.runV (As := []) (rest := []) ⟨hx, hb, hml, hown, hts⟩ (m_X0_firstCall l D cI cJ cO ah (ab a0.toNatClampNeg) (as_ a0.toNatClampNeg) (ad a0.toNatClampNeg) (va_up (va_up (bB a0.toNatClampNeg) 7 a1) 8 a2) (bS a0.toNatClampNeg) (bT a0.toNatClampNeg) (bn a0.toNatClampNeg) (bds a0.toNatClampNeg) N v8 hv8) (cwV 0 hts gX4_setCall_X0_firstCall rfl rfl rfl (by decide +kernel) ⟨(Nat.le_of_ble_eq_true rfl), (Nat.le_of_ble_eq_true rfl)⟩) ⟨pw_blind, va_recv hK hP (ci := 0) (q0 := 6) rfl rfl, fun U hU hW => ⟨rfl, pw_at hZ hS hP hK hU hW (Or.inr rfl) [4, 5, 6] rfl⟩⟩ rfl rfl hl.1 rfl (lv_room (Nat.le_of_ble_eq_true rfl)) dX4_setCall_58 ⟨(Nat.le_of_ble_eq_true rfl), (Nat.le_of_ble_eq_true rfl)⟩) ?_
    refine vx_ret ?_
    refine W.widen (k := 3) (n := 18) (Nat.le_of_ble_eq_true rfl) (Nat.le_of_ble_eq_true rfl) ?_
    have e9 := Option.some.inj hf
    subst e9
    exact W.iret hx hb hr (fun t ht hW => ⟨_, rfl, rfl, by rw [ht]; exact hP, hD, hS.F ht⟩) hS.2.2 dX4_setCall_61
  refine lv_if_eq (tgt := 39) hx hb dX4_setCall_12 (by decide) (fun c9 => ?_) (fun c9 => ?_)
  · have hf := it hf c9
    exact JK5  ls (lv_sub hl [3, 4, 0] rfl) hf
  · have hf := ie hf c9
    refine lv_iload_n hx hb dX4_setCall_15 rfl (lv_at hl 4 rfl) ?_
    refine lv_sipush (v := 8000) hx hb dX4_setCall_16 (by decide) ?_
    refine lv_icmp_lt (tgt := 29) hx hb dX4_setCall_19 (by decide) (fun c10 => ?_) (fun c10 => ?_)
    · have hf := it hf c10
      obtain ⟨sa, hsa⟩ := hT.2.2.1 (151, "price is neither 0 nor 8000 to 15000") (by decide +kernel)
      exact vx_throwS (names := ["java/lang/RuntimeException", "java/lang/Exception"]) (A := A) hx hb hl0 hown (by decide) (by decide) (hts (.classLink RX4 44 "java/lang/IllegalArgumentException") (by decide +kernel)) (hts (.initialized "java/lang/IllegalArgumentException") (by decide +kernel)) hsa (vx_hat (fun w hw => hts w (atX4_setCall_48 w hw)) thr_ng48 (fun w hw => va_any (thr_ot w hw) (hT.2.2.2 w hw))) (by decide +kernel) hT.1 hT.2.1 va_S.rf (hl.1.trans hml.symm) dX4_setCall_29 dX4_setCall_32 dX4_setCall_33 dX4_setCall_35 dX4_setCall_38 (fun x h => (hte x h).elim) (Nat.le_of_ble_eq_true rfl) (Nat.le_of_ble_eq_true rfl) (Nat.le_of_ble_eq_true rfl) (Nat.le_of_ble_eq_true rfl) hlocks (fun t _ h1 h2 => ⟨(Option.some.inj hf).symm, h1, fun q h3 _ => h2 q h3⟩) (fun z hz => absurd hz List.not_mem_nil) (Nat.le_of_ble_eq_true rfl) (Nat.le_of_ble_eq_true rfl)
    · have hf := ie hf c10
      refine lv_iload_n hx hb dX4_setCall_22 rfl (lv_at hl 4 rfl) ?_
      refine lv_sipush (v := 15000) hx hb dX4_setCall_23 (by decide) ?_
      refine lv_icmp_le (tgt := 39) hx hb dX4_setCall_26 (by decide) (fun c11 => ?_) (fun c11 => ?_)
      · have hf := it hf c11
        exact JK5  ls (lv_sub hl [3, 4, 0] rfl) hf
      · have hf := ie hf c11
        obtain ⟨sa, hsa⟩ := hT.2.2.1 (151, "price is neither 0 nor 8000 to 15000") (by decide +kernel)
        exact vx_throwS (names := ["java/lang/RuntimeException", "java/lang/Exception"]) (A := A) hx hb hl0 hown (by decide) (by decide) (hts (.classLink RX4 44 "java/lang/IllegalArgumentException") (by decide +kernel)) (hts (.initialized "java/lang/IllegalArgumentException") (by decide +kernel)) hsa (vx_hat (fun w hw => hts w (atX4_setCall_48 w hw)) thr_ng48 (fun w hw => va_any (thr_ot w hw) (hT.2.2.2 w hw))) (by decide +kernel) hT.1 hT.2.1 va_S.rf (hl.1.trans hml.symm) dX4_setCall_29 dX4_setCall_32 dX4_setCall_33 dX4_setCall_35 dX4_setCall_38 (fun x h => (hte x h).elim) (Nat.le_of_ble_eq_true rfl) (Nat.le_of_ble_eq_true rfl) (Nat.le_of_ble_eq_true rfl) (Nat.le_of_ble_eq_true rfl) hlocks (fun t _ h1 h2 => ⟨(Option.some.inj hf).symm, h1, fun q h3 _ => h2 q h3⟩) (fun z hz => absurd hz List.not_mem_nil) (Nat.le_of_ble_eq_true rfl) (Nat.le_of_ble_eq_true rfl)
theorem inX4_buy_X0 : ∀ w ∈ wsX00, w ∈ wsX4_buy := by decide +kernel
theorem inX4_buy_X4 : ∀ w ∈ wsX40, w ∈ wsX4_buy := by decide +kernel
theorem atX4_buy_77 : ∀ w ∈ (vx_atS RX4 77 "java/lang/IllegalStateException" ["java/lang/RuntimeException", "java/lang/Exception"]).filter goodWord, w ∈ wsX4_buy := by decide +kernel
set_option maxHeartbeats 4000000 in
set_option maxRecDepth 100000 in
theorem m_X4_buy (l : Launch) (D : va_G) (cI cJ cO : ClassId) (ah : Nat) (qk : Nat) (qh : Nat) (qb : Nat) (ql : Nat) (ab : Nat → Nat) (as_ : Nat → Nat) (ad : Nat → Nat) (K : Nat → Int32) (kc : Int64) (hol : Nat → Int32) (LG : Nat → Int64) (nb : Nat) (bB : Nat → Nat → Int32) (bS : Nat → Nat → Int32) (bT : Nat → Nat → Int64) (bn : Nat → Nat) (bds : Nat → Nat → Int32) (sz : Nat) (a0 : Int32) (a1 : Int32) (a2 : Int32) (N : Nat) (r : (Int64 × Int64 × (Nat → Int32)) ⊕ String) (hl0 : l.stackTraces = false) (hf : f_X4_buy N K kc hol nb bB bS bn bds a0 a1 a2 = some r) : vx_Met l yX4_buy wsX4_buy ({ frames := 7, cells := 6, slots := 36, locals := 115 }) (va_Pc [.ref qk, .int a0, .int a1, .int a2] (tP D (ty3 cI cJ cO) (some ah) [eK qk qh qb ql K kc, eG cI qh hol, eF cO qb nb ab, eL ql LG, eD cI (ad a0.toNatClampNeg) (bn a0.toNatClampNeg) (bds a0.toNatClampNeg), eS (as_ a0.toNatClampNeg) (ad a0.toNatClampNeg) (bS a0.toNatClampNeg) (bT a0.toNatClampNeg), eB (ab a0.toNatClampNeg) (as_ a0.toNatClampNeg) (bB a0.toNatClampNeg)] sz)) (tQl D (va_A [eK qk qh qb ql K kc, eG cI qh hol, eF cO qb nb ab, eL ql LG, eD cI (ad a0.toNatClampNeg) (bn a0.toNatClampNeg) (bds a0.toNatClampNeg), eS (as_ a0.toNatClampNeg) (ad a0.toNatClampNeg) (bS a0.toNatClampNeg) (bT a0.toNatClampNeg), eB (ab a0.toNatClampNeg) (as_ a0.toNatClampNeg) (bB a0.toNatClampNeg)] sz) r (fun u => u.1) (fun u => [eK qk qh qb ql K u.2.1, eG cI qh hol, eF cO qb nb ab, eL ql LG, eD cI (ad a0.toNatClampNeg) (bn a0.toNatClampNeg) (bds a0.toNatClampNeg), eS (as_ a0.toNatClampNeg) (ad a0.toNatClampNeg) (bS a0.toNatClampNeg) (bT a0.toNatClampNeg), eB (ab a0.toNatClampNeg) (as_ a0.toNatClampNeg) u.2.2])) (XT r) 6 36 (va_A [eK qk qh qb ql K kc, eG cI qh hol, eF cO qb nb ab, eL ql LG, eD cI (ad a0.toNatClampNeg) (bn a0.toNatClampNeg) (bds a0.toNatClampNeg), eS (as_ a0.toNatClampNeg) (ad a0.toNatClampNeg) (bS a0.toNatClampNeg) (bT a0.toNatClampNeg), eB (ab a0.toNatClampNeg) (as_ a0.toNatClampNeg) (bB a0.toNatClampNeg)] sz) := by
  refine vx_ofW (cc := cX4_buy) (maxL := 7) (ret := (some .long)) (by decide) rfl ?_
  intro p e s m args below meth c s₁ Bd hml hte hv
  obtain ⟨rfl, ⟨hsz, hZ, hP, hK, hD0⟩, hT⟩ := hv
  have hx := Bd.exec
  have hb := Bd.bytes
  have hr := Bd.returns
  have hts := atoms_spec (ws := wsX4_buy) Bd.pre
  have hown : s.vm.findClass RX4 = some m.cls := findClass_of_methodNamed Bd.named
  have hlocks := Bd.notSynchronized
  subst hsz
  have hD := hD0.self (sz := s.heap.size)
  generalize hAe : va_A [eK qk qh qb ql K kc, eG cI qh hol, eF cO qb nb ab, eL ql LG, eD cI (ad a0.toNatClampNeg) (bn a0.toNatClampNeg) (bds a0.toNatClampNeg), eS (as_ a0.toNatClampNeg) (ad a0.toNatClampNeg) (bS a0.toNatClampNeg) (bT a0.toNatClampNeg), eB (ab a0.toNatClampNeg) (as_ a0.toNatClampNeg) (bB a0.toNatClampNeg)] s.heap.size = A at hD hZ hT ⊢
  have hA : ∀ q : Nat, s.heap.size ≤ q → A q := fun q h => by rw [← hAe]; exact Or.inr h
  have hS : va_S A s.heap s.heap [] := va_S.rf
  have hl := lv_entry ([.ref qk, .int a0, .int a1, .int a2]) (n := 7) (Nat.le_of_ble_eq_true rfl)
  rw [lg_entry_eq]
  generalize (lg_sl ([.ref qk, .int a0, .int a1, .int a2]) ++ List.replicate (7 - (lg_sl ([.ref qk, .int a0, .int a1, .int a2])).length) Slot.unset).toArray = ls at hl ⊢
  have hl : lv_has ls 7 [(0, .ref qk), (1, .int a0), (2, .int a1), (3, .int a2)] := hl
  unfold f_X4_buy at hf
  refine lv_aload_n hx hb dX4_buy_0 rfl (lv_at hl 0 rfl) ?_
  refine lv_iload_n hx hb dX4_buy_1 rfl (lv_at hl 1 rfl) ?_
  obtain ⟨v1, hv1, hf⟩ := exs hf
  refine xSr (ad := ab) (vx_runV (As := [.int a0]) (rest := []) ⟨hx, hb, hml, hown, hts⟩ (m_X4_bondNumbered l D cI cJ cO ah qk qh qb ql ab K kc hol LG nb a0 v1 hl0 hv1) (cwV 1 hts gX4_buy_X4_bondNumbered rfl rfl rfl (by decide +kernel) ⟨(Nat.le_of_ble_eq_true rfl), (Nat.le_of_ble_eq_true rfl)⟩) ⟨pT_blind, va_recv hK hP (ci := 3) (q0 := 0) rfl rfl, fun U hU hW => ⟨rfl, pw_at hZ hS hP hK hU hW (Or.inr rfl) [0, 1, 2, 3] rfl, pX_at hT hS hU hW⟩⟩ rfl rfl hl.1 rfl (lv_room (Nat.le_of_ble_eq_true rfl)) dX4_buy_2 ⟨(Nat.le_of_ble_eq_true rfl), (Nat.le_of_ble_eq_true rfl)⟩) (fun E ce q9 H1 locs1 hE hz9 hk9 hS9 hc9 hv9 hl9 => vx_widen (k := 6) (n := 36) (Nat.le_of_ble_eq_true rfl) (Nat.le_of_ble_eq_true rfl) (vx_out (fun x h => (hte x h).elim) hlocks hc9 hv9 hl9 (fun t ht _ => ⟨ex_r hf hE, by rw [ht]; exact hz9, fun q h3 _ => by rw [ht]; exact hk9 q h3⟩) (fun z hz => absurd hz (by rw [hS9]; exact List.not_mem_nil)) (Nat.le_refl _) (Nat.le_refl _))) (fun v2 ev2 => ?_)
  have hf := ex_l hf ev2
  have q9 := eq_X4_bondNumbered hv1 ev2
  subst q9
  refine lv_astore (lv' := [(4, .ref (ab a0.toNatClampNeg)), (0, .ref qk), (1, .int a0), (2, .int a1), (3, .int a2)]) hx hb dX4_buy_5 hl (by decide) rfl (fun ls hl => ?_)
  refine lv_iload_n hx hb dX4_buy_7 rfl (lv_at hl 3 rfl) ?_
  obtain ⟨v3, hv3, hf⟩ := exs hf
  refine xSv (vx_runS (As := [.int a1]) (rest := []) ⟨hx, hb, hml, hown, hts⟩ (m_X4_requirePieces l D cI cJ cO ah a1 v3 hl0 hv3) (va_cwS 1 hts gX4_buy_X4_requirePieces rfl rfl rfl (by decide +kernel) ⟨(Nat.le_of_ble_eq_true rfl), (Nat.le_of_ble_eq_true rfl)⟩) ⟨pT_blind, fun U hU hW => ⟨rfl, pw_at hZ hS hP hK hU hW (Or.inr rfl) [] rfl, pX_at hT hS hU hW⟩⟩ rfl rfl hl.1 rfl (lv_room (Nat.le_of_ble_eq_true rfl)) dX4_buy_8 ⟨(Nat.le_of_ble_eq_true rfl), (Nat.le_of_ble_eq_true rfl)⟩) (fun E ce q9 H1 locs1 hE hz9 hk9 hS9 hc9 hv9 hl9 => vx_widen (k := 6) (n := 36) (Nat.le_of_ble_eq_true rfl) (Nat.le_of_ble_eq_true rfl) (vx_out (fun x h => (hte x h).elim) hlocks hc9 hv9 hl9 (fun t ht _ => ⟨ex_r hf hE, by rw [ht]; exact hz9, fun q h3 _ => by rw [ht]; exact hk9 q h3⟩) (fun z hz => absurd hz (by rw [hS9]; exact List.not_mem_nil)) (Nat.le_refl _) (Nat.le_refl _))) (fun v4 ev4 => ?_)
  have hf := ex_l hf ev4
  refine lv_iload_n hx hb dX4_buy_11 rfl (lv_at hl 4 rfl) ?_
  obtain ⟨v5, hv5, hf⟩ := exs hf
  refine xSv (vx_runS (As := [.int a2]) (rest := []) ⟨hx, hb, hml, hown, hts⟩ (m_X4_requirePrice l D cI cJ cO ah a2 v5 hl0 hv5) (va_cwS 1 hts gX4_buy_X4_requirePrice rfl rfl rfl (by decide +kernel) ⟨(Nat.le_of_ble_eq_true rfl), (Nat.le_of_ble_eq_true rfl)⟩) ⟨pT_blind, fun U hU hW => ⟨rfl, pw_at hZ hS hP hK hU hW (Or.inr rfl) [] rfl, pX_at hT hS hU hW⟩⟩ rfl rfl hl.1 rfl (lv_room (Nat.le_of_ble_eq_true rfl)) dX4_buy_12 ⟨(Nat.le_of_ble_eq_true rfl), (Nat.le_of_ble_eq_true rfl)⟩) (fun E ce q9 H1 locs1 hE hz9 hk9 hS9 hc9 hv9 hl9 => vx_widen (k := 6) (n := 36) (Nat.le_of_ble_eq_true rfl) (Nat.le_of_ble_eq_true rfl) (vx_out (fun x h => (hte x h).elim) hlocks hc9 hv9 hl9 (fun t ht _ => ⟨ex_r hf hE, by rw [ht]; exact hz9, fun q h3 _ => by rw [ht]; exact hk9 q h3⟩) (fun z hz => absurd hz (by rw [hS9]; exact List.not_mem_nil)) (Nat.le_refl _) (Nat.le_refl _))) (fun v6 ev6 => ?_)
  have hf := ex_l hf ev6
  refine lv_aload_n hx hb dX4_buy_15 rfl (lv_at hl 1 rfl) ?_
  obtain ⟨v7, hv7, hf⟩ := exs hf
  refine xSv (vx_runV (As := []) (rest := []) ⟨hx, hb, hml, hown, hts⟩ (m_X4_requireWorkingDay l D cI cJ cO ah qk qh qb ql ab K kc hol LG nb N v7 hl0 hv7) (cwV 0 hts gX4_buy_X4_requireWorkingDay rfl rfl rfl (by decide +kernel) ⟨(Nat.le_of_ble_eq_true rfl), (Nat.le_of_ble_eq_true rfl)⟩) ⟨pT_blind, va_recv hK hP (ci := 3) (q0 := 0) rfl rfl, fun U hU hW => ⟨rfl, pw_at hZ hS hP hK hU hW (Or.inr rfl) [0, 1, 2, 3] rfl, pX_at hT hS hU hW⟩⟩ rfl rfl hl.1 rfl (lv_room (Nat.le_of_ble_eq_true rfl)) dX4_buy_16 ⟨(Nat.le_of_ble_eq_true rfl), (Nat.le_of_ble_eq_true rfl)⟩) (fun E ce q9 H1 locs1 hE hz9 hk9 hS9 hc9 hv9 hl9 => vx_widen (k := 6) (n := 36) (Nat.le_of_ble_eq_true rfl) (Nat.le_of_ble_eq_true rfl) (vx_out (fun x h => (hte x h).elim) hlocks hc9 hv9 hl9 (fun t ht _ => ⟨ex_r hf hE, by rw [ht]; exact hz9, fun q h3 _ => by rw [ht]; exact hk9 q h3⟩) (fun z hz => absurd hz (by rw [hS9]; exact List.not_mem_nil)) (Nat.le_refl _) (Nat.le_refl _))) (fun v8 ev8 => ?_)
  have hf := ex_l hf ev8
  refine lv_aload hx hb dX4_buy_19 (lv_at hl 0 rfl) ?_
  obtain ⟨v9, hv9, hf⟩ := exs hf
  refine xSv (vx_runS (As := [.ref (ab a0.toNatClampNeg)]) (rest := []) ⟨hx, hb, hml, hown, hts⟩ (m_X4_requireThere l D cI cJ cO ah (ab a0.toNatClampNeg) (as_ a0.toNatClampNeg) (ad a0.toNatClampNeg) (bB a0.toNatClampNeg) (bS a0.toNatClampNeg) (bT a0.toNatClampNeg) (bn a0.toNatClampNeg) (bds a0.toNatClampNeg) v9 hl0 hv9) (va_cwS 1 hts gX4_buy_X4_requireThere rfl rfl rfl (by decide +kernel) ⟨(Nat.le_of_ble_eq_true rfl), (Nat.le_of_ble_eq_true rfl)⟩) ⟨pT_blind, fun U hU hW => ⟨rfl, pw_at hZ hS hP hK hU hW (Or.inr rfl) [4, 5, 6] rfl, pX_at hT hS hU hW⟩⟩ rfl rfl hl.1 rfl (lv_room (Nat.le_of_ble_eq_true rfl)) dX4_buy_21 ⟨(Nat.le_of_ble_eq_true rfl), (Nat.le_of_ble_eq_true rfl)⟩) (fun E ce q9 H1 locs1 hE hz9 hk9 hS9 hc9 hv9 hl9 => vx_widen (k := 6) (n := 36) (Nat.le_of_ble_eq_true rfl) (Nat.le_of_ble_eq_true rfl) (vx_out (fun x h => (hte x h).elim) hlocks hc9 hv9 hl9 (fun t ht _ => ⟨ex_r hf hE, by rw [ht]; exact hz9, fun q h3 _ => by rw [ht]; exact hk9 q h3⟩) (fun z hz => absurd hz (by rw [hS9]; exact List.not_mem_nil)) (Nat.le_refl _) (Nat.le_refl _))) (fun v10 ev10 => ?_)
  have hf := ex_l hf ev10
  refine lv_aload hx hb dX4_buy_24 (lv_at hl 0 rfl) ?_
  refine lv_aload_n hx hb dX4_buy_26 rfl (lv_at hl 1 rfl) ?_
  refine va_get (D := D) (ci := 3) (v := .int (K 5)) (C := RX4) (T := TX4) (N := 8) hx hb hts inX4_buy_X4 hown hK hP 0 rfl rfl 5 (by decide) (hts (.fieldLink RX4 27 "BondDesk" "today" "I") (by decide +kernel)) (fun _ h9 => h9) rfl dX4_buy_27 ?_
  obtain ⟨v11, hv11, hf⟩ := ob hf
  refine cSz (W.runV (As := [.int (K 5)]) (rest := []) ⟨hx, hb, hml, hown, hts⟩ (m_X0_isIssued l D cI cJ cO ah (ab a0.toNatClampNeg) (as_ a0.toNatClampNeg) (ad a0.toNatClampNeg) (bB a0.toNatClampNeg) (bS a0.toNatClampNeg) (bT a0.toNatClampNeg) (bn a0.toNatClampNeg) (bds a0.toNatClampNeg) (K 5) v11 hv11) (cwV 1 hts gX4_buy_X0_isIssued rfl rfl rfl (by decide +kernel) ⟨(Nat.le_of_ble_eq_true rfl), (Nat.le_of_ble_eq_true rfl)⟩) ⟨pw_blind, va_recv hK hP (ci := 0) (q0 := 6) rfl rfl, fun U hU hW => ⟨rfl, pw_at hZ hS hP hK hU hW (Or.inr rfl) [4, 5, 6] rfl⟩⟩ rfl rfl hl.1 rfl (lv_room (Nat.le_of_ble_eq_true rfl)) dX4_buy_30 ⟨(Nat.le_of_ble_eq_true rfl), (Nat.le_of_ble_eq_true rfl)⟩) (fun zv11 => ?_)
  refine lv_if_ne (tgt := 46) hx hb dX4_buy_33 (by decide) (fun c12 => ?_) (fun c12 => ?_)
  · have hf := ie hf c12
    refine lv_aload hx hb dX4_buy_46 (lv_at hl 0 rfl) ?_
    refine va_get (D := D) (ci := 0) (v := .int ((bB a0.toNatClampNeg) 4)) (C := RX0) (T := TX0) (N := 9) hx hb hts inX4_buy_X0 hown hK hP 6 rfl rfl 4 (by decide) (hts (.fieldLink RX4 244 "BondDesk$Bond" "pieces" "I") (by decide +kernel)) (fun _ h9 => h9) rfl dX4_buy_48 ?_
    refine lv_iload_n hx hb dX4_buy_51 rfl (lv_at hl 3 rfl) ?_
    refine lv_iadd hx hb dX4_buy_52 ?_
    refine lv_sipush (v := 1000) hx hb dX4_buy_53 (by decide) ?_
    refine lv_icmp_le (tgt := 69) hx hb dX4_buy_56 (by decide) (fun c13 => ?_) (fun c13 => ?_)
    · have hf := it hf c13
      refine lv_iload_n hx hb dX4_buy_69 rfl (lv_at hl 3 rfl) ?_
      refine lv_i2l hx hb dX4_buy_70 rfl ?_
      refine lv_aload hx hb dX4_buy_71 (lv_at hl 0 rfl) ?_
      refine lv_aload_n hx hb dX4_buy_73 rfl (lv_at hl 1 rfl) ?_
      refine va_get (D := D) (ci := 3) (v := .int (K 5)) (C := RX4) (T := TX4) (N := 8) hx hb hts inX4_buy_X4 hown hK hP 0 rfl rfl 5 (by decide) (hts (.fieldLink RX4 27 "BondDesk" "today" "I") (by decide +kernel)) (fun _ h9 => h9) rfl dX4_buy_74 ?_
      refine lv_iload_n hx hb dX4_buy_77 rfl (lv_at hl 4 rfl) ?_
      obtain ⟨v14, hv14, hf⟩ := ob hf
      refine cSl (W.runV (As := [.int (K 5), .int a2]) (rest := [.long a1.toInt64]) ⟨hx, hb, hml, hown, hts⟩ (m_X0_fullPrice l D cI cJ cO ah (ab a0.toNatClampNeg) (as_ a0.toNatClampNeg) (ad a0.toNatClampNeg) (bB a0.toNatClampNeg) (bS a0.toNatClampNeg) (bT a0.toNatClampNeg) (bn a0.toNatClampNeg) (bds a0.toNatClampNeg) (K 5) a2 N v14 hv14) (cwV 2 hts gX4_buy_X0_fullPrice rfl rfl rfl (by decide +kernel) ⟨(Nat.le_of_ble_eq_true rfl), (Nat.le_of_ble_eq_true rfl)⟩) ⟨pw_blind, va_recv hK hP (ci := 0) (q0 := 6) rfl rfl, fun U hU hW => ⟨rfl, pw_at hZ hS hP hK hU hW (Or.inr rfl) [4, 5, 6] rfl⟩⟩ rfl rfl hl.1 rfl (lv_room (Nat.le_of_ble_eq_true rfl)) dX4_buy_78 ⟨(Nat.le_of_ble_eq_true rfl), (Nat.le_of_ble_eq_true rfl)⟩) ?_
      refine lv_lmul hx hb dX4_buy_81 ?_
      refine lv_topl (fun x15 ex15 => ?_)
      have hf := bd_s hf ex15
      refine lv_lstore (lv' := [(5, .long x15), (4, .ref (ab a0.toNatClampNeg)), (0, .ref qk), (1, .int a0), (2, .int a1), (3, .int a2)]) hx hb dX4_buy_82 hl (by decide) rfl (fun ls hl => ?_)
      refine lv_lload hx hb dX4_buy_84 (lv_at hl 0 rfl) ?_
      refine lv_aload_n hx hb dX4_buy_86 rfl (lv_at hl 2 rfl) ?_
      refine va_get (D := D) (ci := 3) (v := .long kc) (C := RX4) (T := TX4) (N := 8) hx hb hts inX4_buy_X4 hown hK hP 0 rfl rfl 6 (by decide) (hts (.fieldLink RX4 33 "BondDesk" "cash" "J") (by decide +kernel)) (fun _ h9 => h9) rfl dX4_buy_87 ?_
      refine W.lcmp hx hb dX4_buy_90 ?_
      refine lv_if_le (tgt := 104) hx hb dX4_buy_91 (by decide) (fun c16 => ?_) (fun c16 => ?_)
      · have hf := it hf c16
        refine lv_aload hx hb dX4_buy_104 (lv_at hl 1 rfl) ?_
        refine lv_dup hx hb dX4_buy_106 rfl ?_
        refine va_get (D := D) (ci := 0) (v := .int ((bB a0.toNatClampNeg) 4)) (C := RX0) (T := TX0) (N := 9) hx hb hts inX4_buy_X0 hown hK hP 6 rfl rfl 4 (by decide) (hts (.fieldLink RX4 244 "BondDesk$Bond" "pieces" "I") (by decide +kernel)) (fun _ h9 => h9) rfl dX4_buy_107 ?_
        refine lv_iload_n hx hb dX4_buy_110 rfl (lv_at hl 4 rfl) ?_
        refine lv_iadd hx hb dX4_buy_111 ?_
        refine lv_topi (fun x17 ex17 => ?_)
        have hf := bd_s hf ex17
        refine va_put (D := D) (ci := 0) (v := .int x17) (ty := .int) (C := RX0) (T := TX0) (N := 9) hx hb hts inX4_buy_X0 tyX0 tyX0_ok nmX0 hown hK hP hD hS 6 rfl rfl 4 (by decide) (hts (.fieldLink RX4 244 "BondDesk$Bond" "pieces" "I") (by decide +kernel)) (fun _ h9 => h9) rfl (by decide +kernel) rfl rfl (Nat.le_of_ble_eq_true rfl) dX4_buy_112 (fun H locs hP hD hS => ?_)
        have hP : va_P D vwCl [eK qk qh qb ql K kc, eG cI qh hol, eF cO qb nb ab, eL ql LG, eD cI (ad a0.toNatClampNeg) (bn a0.toNatClampNeg) (bds a0.toNatClampNeg), eS (as_ a0.toNatClampNeg) (ad a0.toNatClampNeg) (bS a0.toNatClampNeg) (bT a0.toNatClampNeg), eB (ab a0.toNatClampNeg) (as_ a0.toNatClampNeg) (va_up (bB a0.toNatClampNeg) 4 x17)] H := hP
        have hD : va_D A [eK qk qh qb ql K kc, eG cI qh hol, eF cO qb nb ab, eL ql LG, eD cI (ad a0.toNatClampNeg) (bn a0.toNatClampNeg) (bds a0.toNatClampNeg), eS (as_ a0.toNatClampNeg) (ad a0.toNatClampNeg) (bS a0.toNatClampNeg) (bT a0.toNatClampNeg), eB (ab a0.toNatClampNeg) (as_ a0.toNatClampNeg) (va_up (bB a0.toNatClampNeg) 4 x17)] := hD
        refine lv_aload_n hx hb dX4_buy_115 rfl (lv_at hl 2 rfl) ?_
        refine lv_dup hx hb dX4_buy_116 rfl ?_
        refine va_get (D := D) (ci := 3) (v := .long kc) (C := RX4) (T := TX4) (N := 8) hx hb hts inX4_buy_X4 hown hK hP 0 rfl rfl 6 (by decide) (hts (.fieldLink RX4 33 "BondDesk" "cash" "J") (by decide +kernel)) (fun _ h9 => h9) rfl dX4_buy_117 ?_
        refine lv_lload hx hb dX4_buy_120 (lv_at hl 0 rfl) ?_
        refine lv_lsub hx hb dX4_buy_122 ?_
        refine lv_topl (fun x18 ex18 => ?_)
        have hf := bd_s hf ex18
        refine va_put (D := D) (ci := 3) (v := .long x18) (ty := .long) (C := RX4) (T := TX4) (N := 8) hx hb hts inX4_buy_X4 tyX4 tyX4_ok nmX4 hown hK hP hD hS 0 rfl rfl 6 (by decide) (hts (.fieldLink RX4 33 "BondDesk" "cash" "J") (by decide +kernel)) (fun _ h9 => h9) rfl (by decide +kernel) rfl rfl (Nat.le_of_ble_eq_true rfl) dX4_buy_123 (fun H locs hP hD hS => ?_)
        have hP : va_P D vwCl [eK qk qh qb ql K x18, eG cI qh hol, eF cO qb nb ab, eL ql LG, eD cI (ad a0.toNatClampNeg) (bn a0.toNatClampNeg) (bds a0.toNatClampNeg), eS (as_ a0.toNatClampNeg) (ad a0.toNatClampNeg) (bS a0.toNatClampNeg) (bT a0.toNatClampNeg), eB (ab a0.toNatClampNeg) (as_ a0.toNatClampNeg) (va_up (bB a0.toNatClampNeg) 4 x17)] H := hP
        have hD : va_D A [eK qk qh qb ql K x18, eG cI qh hol, eF cO qb nb ab, eL ql LG, eD cI (ad a0.toNatClampNeg) (bn a0.toNatClampNeg) (bds a0.toNatClampNeg), eS (as_ a0.toNatClampNeg) (ad a0.toNatClampNeg) (bS a0.toNatClampNeg) (bT a0.toNatClampNeg), eB (ab a0.toNatClampNeg) (as_ a0.toNatClampNeg) (va_up (bB a0.toNatClampNeg) 4 x17)] := hD
        refine lv_lload hx hb dX4_buy_126 (lv_at hl 0 rfl) ?_
        refine vx_ret ?_
        refine W.widen (k := 6) (n := 36) (Nat.le_of_ble_eq_true rfl) (Nat.le_of_ble_eq_true rfl) ?_
        have e9 := Option.some.inj hf
        subst e9
        exact W.lret hx hb hr (fun t ht hW => ⟨_, rfl, rfl, by rw [ht]; exact hP, hD, hS.F ht⟩) hS.2.2 dX4_buy_128
      · have hf := ie hf c16
        obtain ⟨sa, hsa⟩ := hT.2.2.1 (253, "the cash is not enough") (by decide +kernel)
        exact vx_throwS (names := ["java/lang/RuntimeException", "java/lang/Exception"]) (A := A) hx hb hl0 hown (by decide) (by decide) (hts (.classLink RX4 73 "java/lang/IllegalStateException") (by decide +kernel)) (hts (.initialized "java/lang/IllegalStateException") (by decide +kernel)) hsa (vx_hat (fun w hw => hts w (atX4_buy_77 w hw)) thr_ng77 (fun w hw => va_any (thr_ot w hw) (hT.2.2.2 w hw))) (by decide +kernel) hT.1 hT.2.1 va_S.rf (hl.1.trans hml.symm) dX4_buy_94 dX4_buy_97 dX4_buy_98 dX4_buy_100 dX4_buy_103 (fun x h => (hte x h).elim) (Nat.le_of_ble_eq_true rfl) (Nat.le_of_ble_eq_true rfl) (Nat.le_of_ble_eq_true rfl) (Nat.le_of_ble_eq_true rfl) hlocks (fun t _ h1 h2 => ⟨(Option.some.inj hf).symm, h1, fun q h3 _ => h2 q h3⟩) (fun z hz => absurd hz List.not_mem_nil) (Nat.le_of_ble_eq_true rfl) (Nat.le_of_ble_eq_true rfl)
    · have hf := ie hf c13
      obtain ⟨sa, hsa⟩ := hT.2.2.1 (247, "there would be more than 1000 pieces") (by decide +kernel)
      exact vx_throwS (names := ["java/lang/RuntimeException", "java/lang/Exception"]) (A := A) hx hb hl0 hown (by decide) (by decide) (hts (.classLink RX4 73 "java/lang/IllegalStateException") (by decide +kernel)) (hts (.initialized "java/lang/IllegalStateException") (by decide +kernel)) hsa (vx_hat (fun w hw => hts w (atX4_buy_77 w hw)) thr_ng77 (fun w hw => va_any (thr_ot w hw) (hT.2.2.2 w hw))) (by decide +kernel) hT.1 hT.2.1 va_S.rf (hl.1.trans hml.symm) dX4_buy_59 dX4_buy_62 dX4_buy_63 dX4_buy_65 dX4_buy_68 (fun x h => (hte x h).elim) (Nat.le_of_ble_eq_true rfl) (Nat.le_of_ble_eq_true rfl) (Nat.le_of_ble_eq_true rfl) (Nat.le_of_ble_eq_true rfl) hlocks (fun t _ h1 h2 => ⟨(Option.some.inj hf).symm, h1, fun q h3 _ => h2 q h3⟩) (fun z hz => absurd hz List.not_mem_nil) (Nat.le_of_ble_eq_true rfl) (Nat.le_of_ble_eq_true rfl)
  · have hf := it hf c12
    obtain ⟨sa, hsa⟩ := hT.2.2.1 (242, "today is earlier than the issue date") (by decide +kernel)
    exact vx_throwS (names := ["java/lang/RuntimeException", "java/lang/Exception"]) (A := A) hx hb hl0 hown (by decide) (by decide) (hts (.classLink RX4 73 "java/lang/IllegalStateException") (by decide +kernel)) (hts (.initialized "java/lang/IllegalStateException") (by decide +kernel)) hsa (vx_hat (fun w hw => hts w (atX4_buy_77 w hw)) thr_ng77 (fun w hw => va_any (thr_ot w hw) (hT.2.2.2 w hw))) (by decide +kernel) hT.1 hT.2.1 va_S.rf (hl.1.trans hml.symm) dX4_buy_36 dX4_buy_39 dX4_buy_40 dX4_buy_42 dX4_buy_45 (fun x h => (hte x h).elim) (Nat.le_of_ble_eq_true rfl) (Nat.le_of_ble_eq_true rfl) (Nat.le_of_ble_eq_true rfl) (Nat.le_of_ble_eq_true rfl) hlocks (fun t _ h1 h2 => ⟨(Option.some.inj hf).symm, h1, fun q h3 _ => h2 q h3⟩) (fun z hz => absurd hz List.not_mem_nil) (Nat.le_of_ble_eq_true rfl) (Nat.le_of_ble_eq_true rfl)
theorem inX4_sell_X0 : ∀ w ∈ wsX00, w ∈ wsX4_sell := by decide +kernel
theorem inX4_sell_X4 : ∀ w ∈ wsX40, w ∈ wsX4_sell := by decide +kernel
theorem atX4_sell_77 : ∀ w ∈ (vx_atS RX4 77 "java/lang/IllegalStateException" ["java/lang/RuntimeException", "java/lang/Exception"]).filter goodWord, w ∈ wsX4_sell := by decide +kernel
set_option maxHeartbeats 4000000 in
set_option maxRecDepth 100000 in
theorem m_X4_sell (l : Launch) (D : va_G) (cI cJ cO : ClassId) (ah : Nat) (qk : Nat) (qh : Nat) (qb : Nat) (ql : Nat) (ab : Nat → Nat) (as_ : Nat → Nat) (ad : Nat → Nat) (K : Nat → Int32) (kc : Int64) (hol : Nat → Int32) (LG : Nat → Int64) (nb : Nat) (bB : Nat → Nat → Int32) (bS : Nat → Nat → Int32) (bT : Nat → Nat → Int64) (bn : Nat → Nat) (bds : Nat → Nat → Int32) (sz : Nat) (a0 : Int32) (a1 : Int32) (a2 : Int32) (N : Nat) (r : (Int64 × Int64 × (Nat → Int32)) ⊕ String) (hl0 : l.stackTraces = false) (hf : f_X4_sell N K kc hol nb bB bS bn bds a0 a1 a2 = some r) : vx_Met l yX4_sell wsX4_sell ({ frames := 7, cells := 5, slots := 30, locals := 115 }) (va_Pc [.ref qk, .int a0, .int a1, .int a2] (tP D (ty3 cI cJ cO) (some ah) [eK qk qh qb ql K kc, eG cI qh hol, eF cO qb nb ab, eL ql LG, eD cI (ad a0.toNatClampNeg) (bn a0.toNatClampNeg) (bds a0.toNatClampNeg), eS (as_ a0.toNatClampNeg) (ad a0.toNatClampNeg) (bS a0.toNatClampNeg) (bT a0.toNatClampNeg), eB (ab a0.toNatClampNeg) (as_ a0.toNatClampNeg) (bB a0.toNatClampNeg)] sz)) (tQl D (va_A [eK qk qh qb ql K kc, eG cI qh hol, eF cO qb nb ab, eL ql LG, eD cI (ad a0.toNatClampNeg) (bn a0.toNatClampNeg) (bds a0.toNatClampNeg), eS (as_ a0.toNatClampNeg) (ad a0.toNatClampNeg) (bS a0.toNatClampNeg) (bT a0.toNatClampNeg), eB (ab a0.toNatClampNeg) (as_ a0.toNatClampNeg) (bB a0.toNatClampNeg)] sz) r (fun u => u.1) (fun u => [eK qk qh qb ql K u.2.1, eG cI qh hol, eF cO qb nb ab, eL ql LG, eD cI (ad a0.toNatClampNeg) (bn a0.toNatClampNeg) (bds a0.toNatClampNeg), eS (as_ a0.toNatClampNeg) (ad a0.toNatClampNeg) (bS a0.toNatClampNeg) (bT a0.toNatClampNeg), eB (ab a0.toNatClampNeg) (as_ a0.toNatClampNeg) u.2.2])) (XT r) 5 30 (va_A [eK qk qh qb ql K kc, eG cI qh hol, eF cO qb nb ab, eL ql LG, eD cI (ad a0.toNatClampNeg) (bn a0.toNatClampNeg) (bds a0.toNatClampNeg), eS (as_ a0.toNatClampNeg) (ad a0.toNatClampNeg) (bS a0.toNatClampNeg) (bT a0.toNatClampNeg), eB (ab a0.toNatClampNeg) (as_ a0.toNatClampNeg) (bB a0.toNatClampNeg)] sz) := by
  refine vx_ofW (cc := cX4_sell) (maxL := 7) (ret := (some .long)) (by decide) rfl ?_
  intro p e s m args below meth c s₁ Bd hml hte hv
  obtain ⟨rfl, ⟨hsz, hZ, hP, hK, hD0⟩, hT⟩ := hv
  have hx := Bd.exec
  have hb := Bd.bytes
  have hr := Bd.returns
  have hts := atoms_spec (ws := wsX4_sell) Bd.pre
  have hown : s.vm.findClass RX4 = some m.cls := findClass_of_methodNamed Bd.named
  have hlocks := Bd.notSynchronized
  subst hsz
  have hD := hD0.self (sz := s.heap.size)
  generalize hAe : va_A [eK qk qh qb ql K kc, eG cI qh hol, eF cO qb nb ab, eL ql LG, eD cI (ad a0.toNatClampNeg) (bn a0.toNatClampNeg) (bds a0.toNatClampNeg), eS (as_ a0.toNatClampNeg) (ad a0.toNatClampNeg) (bS a0.toNatClampNeg) (bT a0.toNatClampNeg), eB (ab a0.toNatClampNeg) (as_ a0.toNatClampNeg) (bB a0.toNatClampNeg)] s.heap.size = A at hD hZ hT ⊢
  have hA : ∀ q : Nat, s.heap.size ≤ q → A q := fun q h => by rw [← hAe]; exact Or.inr h
  have hS : va_S A s.heap s.heap [] := va_S.rf
  have hl := lv_entry ([.ref qk, .int a0, .int a1, .int a2]) (n := 7) (Nat.le_of_ble_eq_true rfl)
  rw [lg_entry_eq]
  generalize (lg_sl ([.ref qk, .int a0, .int a1, .int a2]) ++ List.replicate (7 - (lg_sl ([.ref qk, .int a0, .int a1, .int a2])).length) Slot.unset).toArray = ls at hl ⊢
  have hl : lv_has ls 7 [(0, .ref qk), (1, .int a0), (2, .int a1), (3, .int a2)] := hl
  unfold f_X4_sell at hf
  refine lv_aload_n hx hb dX4_sell_0 rfl (lv_at hl 0 rfl) ?_
  refine lv_iload_n hx hb dX4_sell_1 rfl (lv_at hl 1 rfl) ?_
  obtain ⟨v1, hv1, hf⟩ := exs hf
  refine xSr (ad := ab) (vx_runV (As := [.int a0]) (rest := []) ⟨hx, hb, hml, hown, hts⟩ (m_X4_bondNumbered l D cI cJ cO ah qk qh qb ql ab K kc hol LG nb a0 v1 hl0 hv1) (cwV 1 hts gX4_sell_X4_bondNumbered rfl rfl rfl (by decide +kernel) ⟨(Nat.le_of_ble_eq_true rfl), (Nat.le_of_ble_eq_true rfl)⟩) ⟨pT_blind, va_recv hK hP (ci := 3) (q0 := 0) rfl rfl, fun U hU hW => ⟨rfl, pw_at hZ hS hP hK hU hW (Or.inr rfl) [0, 1, 2, 3] rfl, pX_at hT hS hU hW⟩⟩ rfl rfl hl.1 rfl (lv_room (Nat.le_of_ble_eq_true rfl)) dX4_sell_2 ⟨(Nat.le_of_ble_eq_true rfl), (Nat.le_of_ble_eq_true rfl)⟩) (fun E ce q9 H1 locs1 hE hz9 hk9 hS9 hc9 hv9 hl9 => vx_widen (k := 5) (n := 30) (Nat.le_of_ble_eq_true rfl) (Nat.le_of_ble_eq_true rfl) (vx_out (fun x h => (hte x h).elim) hlocks hc9 hv9 hl9 (fun t ht _ => ⟨ex_r hf hE, by rw [ht]; exact hz9, fun q h3 _ => by rw [ht]; exact hk9 q h3⟩) (fun z hz => absurd hz (by rw [hS9]; exact List.not_mem_nil)) (Nat.le_refl _) (Nat.le_refl _))) (fun v2 ev2 => ?_)
  have hf := ex_l hf ev2
  have q9 := eq_X4_bondNumbered hv1 ev2
  subst q9
  refine lv_astore (lv' := [(4, .ref (ab a0.toNatClampNeg)), (0, .ref qk), (1, .int a0), (2, .int a1), (3, .int a2)]) hx hb dX4_sell_5 hl (by decide) rfl (fun ls hl => ?_)
  refine lv_iload_n hx hb dX4_sell_7 rfl (lv_at hl 3 rfl) ?_
  obtain ⟨v3, hv3, hf⟩ := exs hf
  refine xSv (vx_runS (As := [.int a1]) (rest := []) ⟨hx, hb, hml, hown, hts⟩ (m_X4_requirePieces l D cI cJ cO ah a1 v3 hl0 hv3) (va_cwS 1 hts gX4_sell_X4_requirePieces rfl rfl rfl (by decide +kernel) ⟨(Nat.le_of_ble_eq_true rfl), (Nat.le_of_ble_eq_true rfl)⟩) ⟨pT_blind, fun U hU hW => ⟨rfl, pw_at hZ hS hP hK hU hW (Or.inr rfl) [] rfl, pX_at hT hS hU hW⟩⟩ rfl rfl hl.1 rfl (lv_room (Nat.le_of_ble_eq_true rfl)) dX4_sell_8 ⟨(Nat.le_of_ble_eq_true rfl), (Nat.le_of_ble_eq_true rfl)⟩) (fun E ce q9 H1 locs1 hE hz9 hk9 hS9 hc9 hv9 hl9 => vx_widen (k := 5) (n := 30) (Nat.le_of_ble_eq_true rfl) (Nat.le_of_ble_eq_true rfl) (vx_out (fun x h => (hte x h).elim) hlocks hc9 hv9 hl9 (fun t ht _ => ⟨ex_r hf hE, by rw [ht]; exact hz9, fun q h3 _ => by rw [ht]; exact hk9 q h3⟩) (fun z hz => absurd hz (by rw [hS9]; exact List.not_mem_nil)) (Nat.le_refl _) (Nat.le_refl _))) (fun v4 ev4 => ?_)
  have hf := ex_l hf ev4
  refine lv_iload_n hx hb dX4_sell_11 rfl (lv_at hl 4 rfl) ?_
  obtain ⟨v5, hv5, hf⟩ := exs hf
  refine xSv (vx_runS (As := [.int a2]) (rest := []) ⟨hx, hb, hml, hown, hts⟩ (m_X4_requirePrice l D cI cJ cO ah a2 v5 hl0 hv5) (va_cwS 1 hts gX4_sell_X4_requirePrice rfl rfl rfl (by decide +kernel) ⟨(Nat.le_of_ble_eq_true rfl), (Nat.le_of_ble_eq_true rfl)⟩) ⟨pT_blind, fun U hU hW => ⟨rfl, pw_at hZ hS hP hK hU hW (Or.inr rfl) [] rfl, pX_at hT hS hU hW⟩⟩ rfl rfl hl.1 rfl (lv_room (Nat.le_of_ble_eq_true rfl)) dX4_sell_12 ⟨(Nat.le_of_ble_eq_true rfl), (Nat.le_of_ble_eq_true rfl)⟩) (fun E ce q9 H1 locs1 hE hz9 hk9 hS9 hc9 hv9 hl9 => vx_widen (k := 5) (n := 30) (Nat.le_of_ble_eq_true rfl) (Nat.le_of_ble_eq_true rfl) (vx_out (fun x h => (hte x h).elim) hlocks hc9 hv9 hl9 (fun t ht _ => ⟨ex_r hf hE, by rw [ht]; exact hz9, fun q h3 _ => by rw [ht]; exact hk9 q h3⟩) (fun z hz => absurd hz (by rw [hS9]; exact List.not_mem_nil)) (Nat.le_refl _) (Nat.le_refl _))) (fun v6 ev6 => ?_)
  have hf := ex_l hf ev6
  refine lv_aload_n hx hb dX4_sell_15 rfl (lv_at hl 1 rfl) ?_
  obtain ⟨v7, hv7, hf⟩ := exs hf
  refine xSv (vx_runV (As := []) (rest := []) ⟨hx, hb, hml, hown, hts⟩ (m_X4_requireWorkingDay l D cI cJ cO ah qk qh qb ql ab K kc hol LG nb N v7 hl0 hv7) (cwV 0 hts gX4_sell_X4_requireWorkingDay rfl rfl rfl (by decide +kernel) ⟨(Nat.le_of_ble_eq_true rfl), (Nat.le_of_ble_eq_true rfl)⟩) ⟨pT_blind, va_recv hK hP (ci := 3) (q0 := 0) rfl rfl, fun U hU hW => ⟨rfl, pw_at hZ hS hP hK hU hW (Or.inr rfl) [0, 1, 2, 3] rfl, pX_at hT hS hU hW⟩⟩ rfl rfl hl.1 rfl (lv_room (Nat.le_of_ble_eq_true rfl)) dX4_sell_16 ⟨(Nat.le_of_ble_eq_true rfl), (Nat.le_of_ble_eq_true rfl)⟩) (fun E ce q9 H1 locs1 hE hz9 hk9 hS9 hc9 hv9 hl9 => vx_widen (k := 5) (n := 30) (Nat.le_of_ble_eq_true rfl) (Nat.le_of_ble_eq_true rfl) (vx_out (fun x h => (hte x h).elim) hlocks hc9 hv9 hl9 (fun t ht _ => ⟨ex_r hf hE, by rw [ht]; exact hz9, fun q h3 _ => by rw [ht]; exact hk9 q h3⟩) (fun z hz => absurd hz (by rw [hS9]; exact List.not_mem_nil)) (Nat.le_refl _) (Nat.le_refl _))) (fun v8 ev8 => ?_)
  have hf := ex_l hf ev8
  refine lv_iload_n hx hb dX4_sell_19 rfl (lv_at hl 3 rfl) ?_
  refine lv_aload hx hb dX4_sell_20 (lv_at hl 0 rfl) ?_
  refine va_get (D := D) (ci := 0) (v := .int ((bB a0.toNatClampNeg) 4)) (C := RX0) (T := TX0) (N := 9) hx hb hts inX4_sell_X0 hown hK hP 6 rfl rfl 4 (by decide) (hts (.fieldLink RX4 244 "BondDesk$Bond" "pieces" "I") (by decide +kernel)) (fun _ h9 => h9) rfl dX4_sell_22 ?_
  refine lv_icmp_le (tgt := 38) hx hb dX4_sell_25 (by decide) (fun c9 => ?_) (fun c9 => ?_)
  · have hf := it hf c9
    refine lv_iload_n hx hb dX4_sell_38 rfl (lv_at hl 3 rfl) ?_
    refine lv_i2l hx hb dX4_sell_39 rfl ?_
    refine lv_aload hx hb dX4_sell_40 (lv_at hl 0 rfl) ?_
    refine lv_aload_n hx hb dX4_sell_42 rfl (lv_at hl 1 rfl) ?_
    refine va_get (D := D) (ci := 3) (v := .int (K 5)) (C := RX4) (T := TX4) (N := 8) hx hb hts inX4_sell_X4 hown hK hP 0 rfl rfl 5 (by decide) (hts (.fieldLink RX4 27 "BondDesk" "today" "I") (by decide +kernel)) (fun _ h9 => h9) rfl dX4_sell_43 ?_
    refine lv_iload_n hx hb dX4_sell_46 rfl (lv_at hl 4 rfl) ?_
    obtain ⟨v10, hv10, hf⟩ := ob hf
    refine cSl (W.runV (As := [.int (K 5), .int a2]) (rest := [.long a1.toInt64]) ⟨hx, hb, hml, hown, hts⟩ (m_X0_fullPrice l D cI cJ cO ah (ab a0.toNatClampNeg) (as_ a0.toNatClampNeg) (ad a0.toNatClampNeg) (bB a0.toNatClampNeg) (bS a0.toNatClampNeg) (bT a0.toNatClampNeg) (bn a0.toNatClampNeg) (bds a0.toNatClampNeg) (K 5) a2 N v10 hv10) (cwV 2 hts gX4_sell_X0_fullPrice rfl rfl rfl (by decide +kernel) ⟨(Nat.le_of_ble_eq_true rfl), (Nat.le_of_ble_eq_true rfl)⟩) ⟨pw_blind, va_recv hK hP (ci := 0) (q0 := 6) rfl rfl, fun U hU hW => ⟨rfl, pw_at hZ hS hP hK hU hW (Or.inr rfl) [4, 5, 6] rfl⟩⟩ rfl rfl hl.1 rfl (lv_room (Nat.le_of_ble_eq_true rfl)) dX4_sell_47 ⟨(Nat.le_of_ble_eq_true rfl), (Nat.le_of_ble_eq_true rfl)⟩) ?_
    refine lv_lmul hx hb dX4_sell_50 ?_
    refine lv_topl (fun x11 ex11 => ?_)
    have hf := bd_s hf ex11
    refine lv_lstore (lv' := [(5, .long x11), (4, .ref (ab a0.toNatClampNeg)), (0, .ref qk), (1, .int a0), (2, .int a1), (3, .int a2)]) hx hb dX4_sell_51 hl (by decide) rfl (fun ls hl => ?_)
    refine lv_aload hx hb dX4_sell_53 (lv_at hl 1 rfl) ?_
    refine lv_dup hx hb dX4_sell_55 rfl ?_
    refine va_get (D := D) (ci := 0) (v := .int ((bB a0.toNatClampNeg) 4)) (C := RX0) (T := TX0) (N := 9) hx hb hts inX4_sell_X0 hown hK hP 6 rfl rfl 4 (by decide) (hts (.fieldLink RX4 244 "BondDesk$Bond" "pieces" "I") (by decide +kernel)) (fun _ h9 => h9) rfl dX4_sell_56 ?_
    refine lv_iload_n hx hb dX4_sell_59 rfl (lv_at hl 4 rfl) ?_
    refine lv_isub hx hb dX4_sell_60 ?_
    refine lv_topi (fun x12 ex12 => ?_)
    have hf := bd_s hf ex12
    refine va_put (D := D) (ci := 0) (v := .int x12) (ty := .int) (C := RX0) (T := TX0) (N := 9) hx hb hts inX4_sell_X0 tyX0 tyX0_ok nmX0 hown hK hP hD hS 6 rfl rfl 4 (by decide) (hts (.fieldLink RX4 244 "BondDesk$Bond" "pieces" "I") (by decide +kernel)) (fun _ h9 => h9) rfl (by decide +kernel) rfl rfl (Nat.le_of_ble_eq_true rfl) dX4_sell_61 (fun H locs hP hD hS => ?_)
    have hP : va_P D vwCl [eK qk qh qb ql K kc, eG cI qh hol, eF cO qb nb ab, eL ql LG, eD cI (ad a0.toNatClampNeg) (bn a0.toNatClampNeg) (bds a0.toNatClampNeg), eS (as_ a0.toNatClampNeg) (ad a0.toNatClampNeg) (bS a0.toNatClampNeg) (bT a0.toNatClampNeg), eB (ab a0.toNatClampNeg) (as_ a0.toNatClampNeg) (va_up (bB a0.toNatClampNeg) 4 x12)] H := hP
    have hD : va_D A [eK qk qh qb ql K kc, eG cI qh hol, eF cO qb nb ab, eL ql LG, eD cI (ad a0.toNatClampNeg) (bn a0.toNatClampNeg) (bds a0.toNatClampNeg), eS (as_ a0.toNatClampNeg) (ad a0.toNatClampNeg) (bS a0.toNatClampNeg) (bT a0.toNatClampNeg), eB (ab a0.toNatClampNeg) (as_ a0.toNatClampNeg) (va_up (bB a0.toNatClampNeg) 4 x12)] := hD
    refine lv_aload_n hx hb dX4_sell_64 rfl (lv_at hl 2 rfl) ?_
    refine lv_dup hx hb dX4_sell_65 rfl ?_
    refine va_get (D := D) (ci := 3) (v := .long kc) (C := RX4) (T := TX4) (N := 8) hx hb hts inX4_sell_X4 hown hK hP 0 rfl rfl 6 (by decide) (hts (.fieldLink RX4 33 "BondDesk" "cash" "J") (by decide +kernel)) (fun _ h9 => h9) rfl dX4_sell_66 ?_
    refine lv_lload hx hb dX4_sell_69 (lv_at hl 0 rfl) ?_
    refine lv_ladd hx hb dX4_sell_71 ?_
    refine lv_topl (fun x13 ex13 => ?_)
    have hf := bd_s hf ex13
    refine va_put (D := D) (ci := 3) (v := .long x13) (ty := .long) (C := RX4) (T := TX4) (N := 8) hx hb hts inX4_sell_X4 tyX4 tyX4_ok nmX4 hown hK hP hD hS 0 rfl rfl 6 (by decide) (hts (.fieldLink RX4 33 "BondDesk" "cash" "J") (by decide +kernel)) (fun _ h9 => h9) rfl (by decide +kernel) rfl rfl (Nat.le_of_ble_eq_true rfl) dX4_sell_72 (fun H locs hP hD hS => ?_)
    have hP : va_P D vwCl [eK qk qh qb ql K x13, eG cI qh hol, eF cO qb nb ab, eL ql LG, eD cI (ad a0.toNatClampNeg) (bn a0.toNatClampNeg) (bds a0.toNatClampNeg), eS (as_ a0.toNatClampNeg) (ad a0.toNatClampNeg) (bS a0.toNatClampNeg) (bT a0.toNatClampNeg), eB (ab a0.toNatClampNeg) (as_ a0.toNatClampNeg) (va_up (bB a0.toNatClampNeg) 4 x12)] H := hP
    have hD : va_D A [eK qk qh qb ql K x13, eG cI qh hol, eF cO qb nb ab, eL ql LG, eD cI (ad a0.toNatClampNeg) (bn a0.toNatClampNeg) (bds a0.toNatClampNeg), eS (as_ a0.toNatClampNeg) (ad a0.toNatClampNeg) (bS a0.toNatClampNeg) (bT a0.toNatClampNeg), eB (ab a0.toNatClampNeg) (as_ a0.toNatClampNeg) (va_up (bB a0.toNatClampNeg) 4 x12)] := hD
    refine lv_lload hx hb dX4_sell_75 (lv_at hl 0 rfl) ?_
    refine vx_ret ?_
    refine W.widen (k := 5) (n := 30) (Nat.le_of_ble_eq_true rfl) (Nat.le_of_ble_eq_true rfl) ?_
    have e9 := Option.some.inj hf
    subst e9
    exact W.lret hx hb hr (fun t ht hW => ⟨_, rfl, rfl, by rw [ht]; exact hP, hD, hS.F ht⟩) hS.2.2 dX4_sell_77
  · have hf := ie hf c9
    obtain ⟨sa, hsa⟩ := hT.2.2.1 (255, "so many pieces are not held") (by decide +kernel)
    exact vx_throwS (names := ["java/lang/RuntimeException", "java/lang/Exception"]) (A := A) hx hb hl0 hown (by decide) (by decide) (hts (.classLink RX4 73 "java/lang/IllegalStateException") (by decide +kernel)) (hts (.initialized "java/lang/IllegalStateException") (by decide +kernel)) hsa (vx_hat (fun w hw => hts w (atX4_sell_77 w hw)) thr_ng77 (fun w hw => va_any (thr_ot w hw) (hT.2.2.2 w hw))) (by decide +kernel) hT.1 hT.2.1 va_S.rf (hl.1.trans hml.symm) dX4_sell_28 dX4_sell_31 dX4_sell_32 dX4_sell_34 dX4_sell_37 (fun x h => (hte x h).elim) (Nat.le_of_ble_eq_true rfl) (Nat.le_of_ble_eq_true rfl) (Nat.le_of_ble_eq_true rfl) (Nat.le_of_ble_eq_true rfl) hlocks (fun t _ h1 h2 => ⟨(Option.some.inj hf).symm, h1, fun q h3 _ => h2 q h3⟩) (fun z hz => absurd hz List.not_mem_nil) (Nat.le_of_ble_eq_true rfl) (Nat.le_of_ble_eq_true rfl)
theorem inX4_addBond_X0 : ∀ w ∈ wsX00, w ∈ wsX4_addBond := by decide +kernel
theorem inX4_addBond_X3 : ∀ w ∈ wsX30, w ∈ wsX4_addBond := by decide +kernel
theorem inX4_addBond_X4 : ∀ w ∈ wsX40, w ∈ wsX4_addBond := by decide +kernel
theorem atX4_addBond_48 : ∀ w ∈ (vx_atS RX4 48 "java/lang/IllegalArgumentException" ["java/lang/RuntimeException", "java/lang/Exception"]).filter goodWord, w ∈ wsX4_addBond := by decide +kernel
theorem atX4_addBond_77 : ∀ w ∈ (vx_atS RX4 77 "java/lang/IllegalStateException" ["java/lang/RuntimeException", "java/lang/Exception"]).filter goodWord, w ∈ wsX4_addBond := by decide +kernel
set_option maxHeartbeats 4000000 in
set_option maxRecDepth 100000 in
theorem m_X4_addBond (l : Launch) (D : va_G) (cI cJ cO : ClassId) (ah : Nat) (qk : Nat) (qh : Nat) (qb : Nat) (ql : Nat) (ab : Nat → Nat) (K : Nat → Int32) (kc : Int64) (hol : Nat → Int32) (LG : Nat → Int64) (nb : Nat) (sz : Nat) (a0 : Int32) (a1 : Int32) (a2 : Int32) (a3 : Int32) (a4 : Int32) (N : Nat) (r : (Int32 × (Nat → Int32) × (Nat → Int32) × (Nat → Int64) × Nat × (Nat → Int32) × (Nat → Int32)) ⊕ String) (hl0 : l.stackTraces = false) (hf : f_X4_addBond N K a0 a1 a2 a3 a4 = some r) : vx_Met l yX4_addBond wsX4_addBond ({ frames := 8, cells := 8, slots := 168, locals := 124 }) (va_Pc [.ref qk, .int a0, .int a1, .int a2, .int a3, .int a4] (tP D (ty3 cI cJ cO) (some ah) [eK qk qh qb ql K kc, eG cI qh hol, eF cO qb nb ab, eL ql LG] sz)) (tQa D (va_A [eK qk qh qb ql K kc, eG cI qh hol, eF cO qb nb ab, eL ql LG] sz) r (fun u => u.1) (fun u z => [eK qk qh qb ql u.2.1 kc, eG cI qh hol, (qb, .inl (cO, 10, .inr (.inr (.inr (.inr (va_up (fun i => if i < nb then some (ab i) else none) (K 4).toNatClampNeg (some z.1))))))), eL ql LG, eB z.1 z.2.1 u.2.2.2.2.2.2, eS z.2.1 z.2.2 u.2.2.1 u.2.2.2.1, eD cI z.2.2 u.2.2.2.2.1 u.2.2.2.2.2.1])) (XT r) 8 168 (va_A [eK qk qh qb ql K kc, eG cI qh hol, eF cO qb nb ab, eL ql LG] sz) := by
  refine vx_ofW (cc := cX4_addBond) (maxL := 7) (ret := (some .int)) (by decide) rfl ?_
  intro p e s m args below meth c s₁ Bd hml hte hv
  obtain ⟨rfl, ⟨hsz, hZ, hP, hK, hD0⟩, hT⟩ := hv
  have hx := Bd.exec
  have hb := Bd.bytes
  have hr := Bd.returns
  have hts := atoms_spec (ws := wsX4_addBond) Bd.pre
  have hown : s.vm.findClass RX4 = some m.cls := findClass_of_methodNamed Bd.named
  have hlocks := Bd.notSynchronized
  subst hsz
  have hD := hD0.self (sz := s.heap.size)
  generalize hAe : va_A [eK qk qh qb ql K kc, eG cI qh hol, eF cO qb nb ab, eL ql LG] s.heap.size = A at hD hZ hT ⊢
  have hA : ∀ q : Nat, s.heap.size ≤ q → A q := fun q h => by rw [← hAe]; exact Or.inr h
  have hS : va_S A s.heap s.heap [] := va_S.rf
  have hl := lv_entry ([.ref qk, .int a0, .int a1, .int a2, .int a3, .int a4]) (n := 7) (Nat.le_of_ble_eq_true rfl)
  rw [lg_entry_eq]
  generalize (lg_sl ([.ref qk, .int a0, .int a1, .int a2, .int a3, .int a4]) ++ List.replicate (7 - (lg_sl ([.ref qk, .int a0, .int a1, .int a2, .int a3, .int a4])).length) Slot.unset).toArray = ls at hl ⊢
  have hl : lv_has ls 7 [(0, .ref qk), (1, .int a0), (2, .int a1), (3, .int a2), (4, .int a3), (5, .int a4)] := hl
  unfold f_X4_addBond at hf
  refine lv_aload_n hx hb dX4_addBond_0 rfl (lv_at hl 0 rfl) ?_
  refine lv_iload_n hx hb dX4_addBond_1 rfl (lv_at hl 1 rfl) ?_
  refine lv_iload_n hx hb dX4_addBond_2 rfl (lv_at hl 2 rfl) ?_
  obtain ⟨v1, hv1, hf⟩ := exs hf
  refine xSv (vx_runV (As := [.int a0, .int a1]) (rest := []) ⟨hx, hb, hml, hown, hts⟩ (m_X4_requireLife l D cI cJ cO ah qk qh qb ql ab K kc hol LG nb a0 a1 v1 hl0 hv1) (cwV 2 hts gX4_addBond_X4_requireLife rfl rfl rfl (by decide +kernel) ⟨(Nat.le_of_ble_eq_true rfl), (Nat.le_of_ble_eq_true rfl)⟩) ⟨pT_blind, va_recv hK hP (ci := 3) (q0 := 0) rfl rfl, fun U hU hW => ⟨rfl, pw_at hZ hS hP hK hU hW (Or.inr rfl) [0, 1, 2, 3] rfl, pX_at hT hS hU hW⟩⟩ rfl rfl hl.1 rfl (lv_room (Nat.le_of_ble_eq_true rfl)) dX4_addBond_3 ⟨(Nat.le_of_ble_eq_true rfl), (Nat.le_of_ble_eq_true rfl)⟩) (fun E ce q9 H1 locs1 hE hz9 hk9 hS9 hc9 hv9 hl9 => vx_widen (k := 8) (n := 168) (Nat.le_of_ble_eq_true rfl) (Nat.le_of_ble_eq_true rfl) (vx_out (fun x h => (hte x h).elim) hlocks hc9 hv9 hl9 (fun t ht _ => ⟨ex_r hf hE, by rw [ht]; exact hz9, fun q h3 _ => by rw [ht]; exact hk9 q h3⟩) (fun z hz => absurd hz (by rw [hS9]; exact List.not_mem_nil)) (Nat.le_refl _) (Nat.le_refl _))) (fun v2 ev2 => ?_)
  have hf := ex_l hf ev2
  refine lv_iload_n hx hb dX4_addBond_6 rfl (lv_at hl 3 rfl) ?_
  refine lv_iload hx hb dX4_addBond_7 (lv_at hl 4 rfl) ?_
  refine lv_iload hx hb dX4_addBond_9 (lv_at hl 5 rfl) ?_
  obtain ⟨v3, hv3, hf⟩ := exs hf
  refine xSv (vx_runS (As := [.int a2, .int a3, .int a4]) (rest := []) ⟨hx, hb, hml, hown, hts⟩ (m_X4_requireTerms l D cI cJ cO ah a2 a3 a4 v3 hl0 hv3) (va_cwS 3 hts gX4_addBond_X4_requireTerms rfl rfl rfl (by decide +kernel) ⟨(Nat.le_of_ble_eq_true rfl), (Nat.le_of_ble_eq_true rfl)⟩) ⟨pT_blind, fun U hU hW => ⟨rfl, pw_at hZ hS hP hK hU hW (Or.inr rfl) [] rfl, pX_at hT hS hU hW⟩⟩ rfl rfl hl.1 rfl (lv_room (Nat.le_of_ble_eq_true rfl)) dX4_addBond_11 ⟨(Nat.le_of_ble_eq_true rfl), (Nat.le_of_ble_eq_true rfl)⟩) (fun E ce q9 H1 locs1 hE hz9 hk9 hS9 hc9 hv9 hl9 => vx_widen (k := 8) (n := 168) (Nat.le_of_ble_eq_true rfl) (Nat.le_of_ble_eq_true rfl) (vx_out (fun x h => (hte x h).elim) hlocks hc9 hv9 hl9 (fun t ht _ => ⟨ex_r hf hE, by rw [ht]; exact hz9, fun q h3 _ => by rw [ht]; exact hk9 q h3⟩) (fun z hz => absurd hz (by rw [hS9]; exact List.not_mem_nil)) (Nat.le_refl _) (Nat.le_refl _))) (fun v4 ev4 => ?_)
  have hf := ex_l hf ev4
  refine lv_iload_n hx hb dX4_addBond_14 rfl (lv_at hl 1 rfl) ?_
  refine lv_iload_n hx hb dX4_addBond_15 rfl (lv_at hl 2 rfl) ?_
  refine lv_iload hx hb dX4_addBond_16 (lv_at hl 4 rfl) ?_
  obtain ⟨v5, hv5, hf⟩ := ob hf
  refine cSi (W.runS (As := [.int a0, .int a1, .int a3]) (rest := []) ⟨hx, hb, hml, hown, hts⟩ (m_X3_countCoupons l D cI cJ cO ah a0 a1 a3 N v5 hv5) (va_cwS 3 hts gX4_addBond_X3_countCoupons rfl rfl rfl (by decide +kernel) ⟨(Nat.le_of_ble_eq_true rfl), (Nat.le_of_ble_eq_true rfl)⟩) ⟨pw_blind, fun U hU hW => ⟨rfl, pw_at hZ hS hP hK hU hW (Or.inr rfl) [] rfl⟩⟩ rfl rfl hl.1 rfl (lv_room (Nat.le_of_ble_eq_true rfl)) dX4_addBond_18 ⟨(Nat.le_of_ble_eq_true rfl), (Nat.le_of_ble_eq_true rfl)⟩) ?_
  refine lv_istore (lv' := [(6, .int v5), (0, .ref qk), (1, .int a0), (2, .int a1), (3, .int a2), (4, .int a3), (5, .int a4)]) hx hb dX4_addBond_21 hl (by decide) rfl (fun ls hl => ?_)
  refine lv_iload hx hb dX4_addBond_23 (lv_at hl 0 rfl) ?_
  refine lv_iconst (v := 1) hx hb dX4_addBond_25 (by decide) ?_
  refine lv_icmp_lt (tgt := 36) hx hb dX4_addBond_26 (by decide) (fun c6 => ?_) (fun c6 => ?_)
  · have hf := it hf c6
    obtain ⟨sa, hsa⟩ := hT.2.2.1 (106, "there would be more than 120 coupon dates") (by decide +kernel)
    exact vx_throwS (names := ["java/lang/RuntimeException", "java/lang/Exception"]) (A := A) hx hb hl0 hown (by decide) (by decide) (hts (.classLink RX4 44 "java/lang/IllegalArgumentException") (by decide +kernel)) (hts (.initialized "java/lang/IllegalArgumentException") (by decide +kernel)) hsa (vx_hat (fun w hw => hts w (atX4_addBond_48 w hw)) thr_ng48 (fun w hw => va_any (thr_ot w hw) (hT.2.2.2 w hw))) (by decide +kernel) hT.1 hT.2.1 va_S.rf (hl.1.trans hml.symm) dX4_addBond_36 dX4_addBond_39 dX4_addBond_40 dX4_addBond_42 dX4_addBond_45 (fun x h => (hte x h).elim) (Nat.le_of_ble_eq_true rfl) (Nat.le_of_ble_eq_true rfl) (Nat.le_of_ble_eq_true rfl) (Nat.le_of_ble_eq_true rfl) hlocks (fun t _ h1 h2 => ⟨(Option.some.inj hf).symm, h1, fun q h3 _ => h2 q h3⟩) (fun z hz => absurd hz List.not_mem_nil) (Nat.le_of_ble_eq_true rfl) (Nat.le_of_ble_eq_true rfl)
  · have hf := ie hf c6
    refine lv_iload hx hb dX4_addBond_29 (lv_at hl 0 rfl) ?_
    refine lv_bipush (v := 120) hx hb dX4_addBond_31 (by decide) ?_
    refine lv_icmp_le (tgt := 46) hx hb dX4_addBond_33 (by decide) (fun c7 => ?_) (fun c7 => ?_)
    · have hf := it hf c7
      refine lv_iload_n hx hb dX4_addBond_46 rfl (lv_at hl 3 rfl) ?_
      refine lv_iload hx hb dX4_addBond_47 (lv_at hl 0 rfl) ?_
      refine lv_iload hx hb dX4_addBond_49 (lv_at hl 5 rfl) ?_
      obtain ⟨v8, hv8, hf⟩ := ob hf
      refine cSi (W.runS (As := [.int a1, .int v5, .int a3]) (rest := []) ⟨hx, hb, hml, hown, hts⟩ (m_X3_dateBack l D cI cJ cO ah a1 v5 a3 v8 hv8) (va_cwS 3 hts gX4_addBond_X3_dateBack rfl rfl rfl (by decide +kernel) ⟨(Nat.le_of_ble_eq_true rfl), (Nat.le_of_ble_eq_true rfl)⟩) ⟨pw_blind, fun U hU hW => ⟨rfl, pw_at hZ hS hP hK hU hW (Or.inr rfl) [] rfl⟩⟩ rfl rfl hl.1 rfl (lv_room (Nat.le_of_ble_eq_true rfl)) dX4_addBond_51 ⟨(Nat.le_of_ble_eq_true rfl), (Nat.le_of_ble_eq_true rfl)⟩) ?_
      refine lv_ldc hx hb hown (hts (.constant RX4 111 (20160101)) (by decide +kernel)) dX4_addBond_54 ?_
      refine lv_icmp_ge (tgt := 69) hx hb dX4_addBond_56 (by decide) (fun c9 => ?_) (fun c9 => ?_)
      · have hf := it hf c9
        refine lv_aload_n hx hb dX4_addBond_69 rfl (lv_at hl 1 rfl) ?_
        refine va_get (D := D) (ci := 3) (v := .int (K 4)) (C := RX4) (T := TX4) (N := 8) hx hb hts inX4_addBond_X4 hown hK hP 0 rfl rfl 4 (by decide) (hts (.fieldLink RX4 114 "BondDesk" "bondCount" "I") (by decide +kernel)) (fun _ h9 => h9) rfl dX4_addBond_70 ?_
        refine lv_if_lt (tgt := 88) hx hb dX4_addBond_73 (by decide) (fun c10 => ?_) (fun c10 => ?_)
        · have hf := it hf c10
          obtain ⟨sa, hsa⟩ := hT.2.2.1 (117, "there are 10 bonds") (by decide +kernel)
          exact vx_throwS (names := ["java/lang/RuntimeException", "java/lang/Exception"]) (A := A) hx hb hl0 hown (by decide) (by decide) (hts (.classLink RX4 73 "java/lang/IllegalStateException") (by decide +kernel)) (hts (.initialized "java/lang/IllegalStateException") (by decide +kernel)) hsa (vx_hat (fun w hw => hts w (atX4_addBond_77 w hw)) thr_ng77 (fun w hw => va_any (thr_ot w hw) (hT.2.2.2 w hw))) (by decide +kernel) hT.1 hT.2.1 va_S.rf (hl.1.trans hml.symm) dX4_addBond_88 dX4_addBond_91 dX4_addBond_92 dX4_addBond_94 dX4_addBond_97 (fun x h => (hte x h).elim) (Nat.le_of_ble_eq_true rfl) (Nat.le_of_ble_eq_true rfl) (Nat.le_of_ble_eq_true rfl) (Nat.le_of_ble_eq_true rfl) hlocks (fun t _ h1 h2 => ⟨(Option.some.inj hf).symm, h1, fun q h3 _ => h2 q h3⟩) (fun z hz => absurd hz List.not_mem_nil) (Nat.le_of_ble_eq_true rfl) (Nat.le_of_ble_eq_true rfl)
        · have hf := ie hf c10
          refine lv_aload_n hx hb dX4_addBond_76 rfl (lv_at hl 1 rfl) ?_
          refine va_get (D := D) (ci := 3) (v := .int (K 4)) (C := RX4) (T := TX4) (N := 8) hx hb hts inX4_addBond_X4 hown hK hP 0 rfl rfl 4 (by decide) (hts (.fieldLink RX4 114 "BondDesk" "bondCount" "I") (by decide +kernel)) (fun _ h9 => h9) rfl dX4_addBond_77 ?_
          refine lv_aload_n hx hb dX4_addBond_80 rfl (lv_at hl 1 rfl) ?_
          refine va_get (D := D) (ci := 3) (v := .ref qb) (C := RX4) (T := TX4) (N := 8) hx hb hts inX4_addBond_X4 hown hK hP 0 rfl rfl 1 (by decide) (hts (.fieldLink RX4 15 "BondDesk" "bonds" "[LBondDesk$Bond;") (by decide +kernel)) (fun _ h9 => h9) rfl dX4_addBond_81 ?_
          refine va_alen (v := 10) hx hb hK hP 2 2 rfl rfl rfl dX4_addBond_84 ?_
          refine lv_icmp_lt (tgt := 98) hx hb dX4_addBond_85 (by decide) (fun c11 => ?_) (fun c11 => ?_)
          · have hf := it hf c11
            refine lv_aload_n hx hb dX4_addBond_98 rfl (lv_at hl 1 rfl) ?_
            refine va_get (D := D) (ci := 3) (v := .ref qb) (C := RX4) (T := TX4) (N := 8) hx hb hts inX4_addBond_X4 hown hK hP 0 rfl rfl 1 (by decide) (hts (.fieldLink RX4 15 "BondDesk" "bonds" "[LBondDesk$Bond;") (by decide +kernel)) (fun _ h9 => h9) rfl dX4_addBond_99 ?_
            refine lv_aload_n hx hb dX4_addBond_102 rfl (lv_at hl 1 rfl) ?_
            refine va_get (D := D) (ci := 3) (v := .int (K 4)) (C := RX4) (T := TX4) (N := 8) hx hb hts inX4_addBond_X4 hown hK hP 0 rfl rfl 4 (by decide) (hts (.fieldLink RX4 114 "BondDesk" "bondCount" "I") (by decide +kernel)) (fun _ h9 => h9) rfl dX4_addBond_103 ?_
            refine va_new (ci := 0) (fs := [.null, .int 0, .int 0, .int 0, .int 0, .int 0, .int 0, .int 0, .int 0]) (C := RX0) (T := TX0) (N := 9) hx hb hts inX4_addBond_X0 tyX0 tyX0_ok hown (hts (.classLink RX4 13 RX0) (by decide +kernel)) (hts (.instantiable RX0 9) (by decide +kernel)) (hts (.initialized RX0) (by decide +kernel)) hK hP hD hS hA rfl (fun j hj => by rcases (show j = 0 ∨ j = 1 ∨ j = 2 ∨ j = 3 ∨ j = 4 ∨ j = 5 ∨ j = 6 ∨ j = 7 ∨ j = 8 by omega) with rfl | rfl | rfl | rfl | rfl | rfl | rfl | rfl | rfl <;> rfl) (Nat.le_of_ble_eq_true rfl) (Nat.le_of_ble_eq_true rfl) dX4_addBond_106 (fun q12 H hP hD hS => ?_)
            have hP : va_P D vwCl [eK qk qh qb ql K kc, eG cI qh hol, eF cO qb nb ab, eL ql LG, eBr q12 .null (fun _ => 0)] H := hP
            have hD : va_D A [eK qk qh qb ql K kc, eG cI qh hol, eF cO qb nb ab, eL ql LG, eBr q12 .null (fun _ => 0)] := hD
            refine W.widen (k := 6) (n := 39) (Nat.le_of_ble_eq_true rfl) (Nat.le_of_ble_eq_true rfl) ?_
            refine lv_dup hx hb dX4_addBond_109 rfl ?_
            refine va_new (ci := 2) (fs := [.int 0, .int 0, .int 0, .int 0, .int 0, .int 0, .null, .long 0, .long 0]) (C := RX3) (T := TX3) (N := 9) hx hb hts inX4_addBond_X3 tyX3 tyX3_ok hown (hts (.classLink RX4 101 RX3) (by decide +kernel)) (hts (.instantiable RX3 9) (by decide +kernel)) (hts (.initialized RX3) (by decide +kernel)) hK hP hD hS hA rfl (fun j hj => by rcases (show j = 0 ∨ j = 1 ∨ j = 2 ∨ j = 3 ∨ j = 4 ∨ j = 5 ∨ j = 6 ∨ j = 7 ∨ j = 8 by omega) with rfl | rfl | rfl | rfl | rfl | rfl | rfl | rfl | rfl <;> rfl) (Nat.le_of_ble_eq_true rfl) (Nat.le_of_ble_eq_true rfl) dX4_addBond_110 (fun q13 H hP hD hS => ?_)
            have hP : va_P D vwCl [eK qk qh qb ql K kc, eG cI qh hol, eF cO qb nb ab, eL ql LG, eBr q12 .null (fun _ => 0), eSr q13 .null (fun _ => 0) (fun _ => 0)] H := hP
            have hD : va_D A [eK qk qh qb ql K kc, eG cI qh hol, eF cO qb nb ab, eL ql LG, eBr q12 .null (fun _ => 0), eSr q13 .null (fun _ => 0) (fun _ => 0)] := hD
            refine W.widen (k := 7) (n := 48) (Nat.le_of_ble_eq_true rfl) (Nat.le_of_ble_eq_true rfl) ?_
            refine lv_dup hx hb dX4_addBond_113 rfl ?_
            refine lv_iload_n hx hb dX4_addBond_114 rfl (lv_at hl 2 rfl) ?_
            refine lv_iload_n hx hb dX4_addBond_115 rfl (lv_at hl 3 rfl) ?_
            refine lv_iload_n hx hb dX4_addBond_116 rfl (lv_at hl 4 rfl) ?_
            refine lv_iload hx hb dX4_addBond_117 (lv_at hl 5 rfl) ?_
            refine lv_iload hx hb dX4_addBond_119 (lv_at hl 6 rfl) ?_
            refine lv_iload hx hb dX4_addBond_121 (lv_at hl 0 rfl) ?_
            obtain ⟨v14, hv14, hf⟩ := ob hf
            have hPc := hP.sub (ws' := [eSr q13 .null (fun _ => 0) (fun _ => 0)]) [5] rfl
            have hDc := hD.sub (ws' := [eSr q13 .null (fun _ => 0) (fun _ => 0)]) [5] (by decide) rfl
            have hFc := va_free (wc := [eSr q13 .null (fun _ => 0) (fun _ => 0)]) hD hS hA [5] rfl
            refine va_callv (va_runI (As := [.int a0, .int a1, .int a2, .int a3, .int a4, .int v5]) (rest := [.ref q13, .ref q12, .ref q12, .int (K 4), .ref qb]) ⟨hx, hb, hml, hown, hts⟩ (m_X3_init l D cI cJ cO ah q13 H.size a0 a1 a2 a3 a4 v5 N v14 hv14) (cwI 6 hts gX4_addBond_X3_init rfl rfl rfl (hts (.initialized RX3) (by decide +kernel)) (hts (.methodLink RX4 119 yX3_init) (by decide +kernel)) (hts (.instanceMethod yX3_init) (by decide +kernel)) rfl (by decide +kernel) ⟨Nat.le_of_ble_eq_true rfl, Nat.le_of_ble_eq_true rfl⟩) ⟨mp_blind, fun U hU hW => ⟨rfl, mp_at hZ hS hPc hK hDc hFc hU hW (Or.inr rfl)⟩⟩ rfl rfl hl.1 rfl (lv_room (Nat.le_of_ble_eq_true rfl)) dX4_addBond_123 ⟨Nat.le_of_ble_eq_true rfl, Nat.le_of_ble_eq_true rfl⟩) hS (fun q _ h => hFc q h) hFc (fun q15 t H1 locs ht9 hvm hw hBx hz1 hk1 hS => ?_)
            obtain ⟨hP1, hD1⟩ := hBx
            rw [ht9] at hP1
            obtain ⟨hP, hD⟩ := va_join (wr := [eK qk qh qb ql K kc, eG cI qh hol, eF cO qb nb ab, eL ql LG, eBr q12 .null (fun _ => 0)]) (w1 := [eS q13 q15 v14.1 v14.2.1, eD cI q15 v14.2.2.1 v14.2.2.2]) hP hD [5] [0, 1, 2, 3, 4] rfl rfl (by decide) (by decide) hk1 hFc hP1 hD1
            have hP := hP.sub (ws' := [eK qk qh qb ql K kc, eG cI qh hol, eF cO qb nb ab, eL ql LG, eBr q12 .null (fun _ => 0), eS q13 q15 v14.1 v14.2.1, eD cI q15 v14.2.2.1 v14.2.2.2]) [0, 1, 2, 3, 4, 5, 6] rfl
            have hD := hD.sub (ws' := [eK qk qh qb ql K kc, eG cI qh hol, eF cO qb nb ab, eL ql LG, eBr q12 .null (fun _ => 0), eS q13 q15 v14.1 v14.2.1, eD cI q15 v14.2.2.1 v14.2.2.2]) [0, 1, 2, 3, 4, 5, 6] (by decide) rfl
            generalize H1 = H at hP hS ⊢
            refine lv_aload_n hx hb dX4_addBond_126 rfl (lv_at hl 1 rfl) ?_
            refine va_get (D := D) (ci := 3) (v := .int (K 5)) (C := RX4) (T := TX4) (N := 8) hx hb hts inX4_addBond_X4 hown hK hP 0 rfl rfl 5 (by decide) (hts (.fieldLink RX4 27 "BondDesk" "today" "I") (by decide +kernel)) (fun _ h9 => h9) rfl dX4_addBond_127 ?_
            obtain ⟨v16, hv16, hf⟩ := ob hf
            have hPc := hP.sub (ws' := [eD cI q15 v14.2.2.1 v14.2.2.2, eS q13 q15 v14.1 v14.2.1, eBr q12 .null (fun _ => 0)]) [6, 5, 4] rfl
            have hDc := hD.sub (ws' := [eD cI q15 v14.2.2.1 v14.2.2.2, eS q13 q15 v14.1 v14.2.1, eBr q12 .null (fun _ => 0)]) [6, 5, 4] (by decide) rfl
            have hFc := va_free (wc := [eD cI q15 v14.2.2.1 v14.2.2.2, eS q13 q15 v14.1 v14.2.1, eBr q12 .null (fun _ => 0)]) hD hS hA [6, 5, 4] rfl
            refine va_callv (va_runI (As := [.ref q13, .int (K 5)]) (rest := [.ref q12, .int (K 4), .ref qb]) ⟨hx, hb, hml, hown, hts⟩ (m_X0_init l D cI cJ cO ah q12 q13 q15 v14.1 v14.2.1 v14.2.2.1 v14.2.2.2 H.size (K 5) N v16 hv16) (cwI 2 hts gX4_addBond_X0_init rfl rfl rfl (hts (.initialized RX0) (by decide +kernel)) (hts (.methodLink RX4 122 yX0_init) (by decide +kernel)) (hts (.instanceMethod yX0_init) (by decide +kernel)) rfl (by decide +kernel) ⟨Nat.le_of_ble_eq_true rfl, Nat.le_of_ble_eq_true rfl⟩) ⟨mp_blind, fun U hU hW => ⟨rfl, mp_at hZ hS hPc hK hDc hFc hU hW (Or.inr rfl)⟩⟩ rfl rfl hl.1 rfl (lv_room (Nat.le_of_ble_eq_true rfl)) dX4_addBond_130 ⟨Nat.le_of_ble_eq_true rfl, Nat.le_of_ble_eq_true rfl⟩) hS (fun q _ h => hFc q h) hFc (fun u t H1 locs ht9 hvm hw hBx hz1 hk1 hS => ?_)
            obtain ⟨hP1, hD1⟩ := hBx
            rw [ht9] at hP1
            obtain ⟨hP, hD⟩ := va_join (wr := [eK qk qh qb ql K kc, eG cI qh hol, eF cO qb nb ab, eL ql LG]) (w1 := [eD cI q15 v14.2.2.1 v14.2.2.2, eS q13 q15 v14.1 v14.2.1, eB q12 q13 v16]) hP hD [6, 5, 4] [0, 1, 2, 3] rfl rfl (by decide) (by decide) hk1 hFc hP1 hD1
            have hP := hP.sub (ws' := [eK qk qh qb ql K kc, eG cI qh hol, eF cO qb nb ab, eL ql LG, eB q12 q13 v16, eS q13 q15 v14.1 v14.2.1, eD cI q15 v14.2.2.1 v14.2.2.2]) [0, 1, 2, 3, 6, 5, 4] rfl
            have hD := hD.sub (ws' := [eK qk qh qb ql K kc, eG cI qh hol, eF cO qb nb ab, eL ql LG, eB q12 q13 v16, eS q13 q15 v14.1 v14.2.1, eD cI q15 v14.2.2.1 v14.2.2.2]) [0, 1, 2, 3, 6, 5, 4] (by decide) rfl
            generalize H1 = H at hP hS ⊢
            obtain ⟨c17, hf⟩ := gd_s hf
            refine va_astq hx hb hK hP hD hS 2 2 4 0 rfl rfl rfl rfl c17 dX4_addBond_133 (fun H locs hP hD hS => ?_)
            have hP : va_P D vwCl [eK qk qh qb ql K kc, eG cI qh hol, (qb, .inl (cO, 10, .inr (.inr (.inr (.inr (va_up (fun i => if i < nb then some (ab i) else none) (K 4).toNatClampNeg (some q12))))))), eL ql LG, eB q12 q13 v16, eS q13 q15 v14.1 v14.2.1, eD cI q15 v14.2.2.1 v14.2.2.2] H := hP
            have hD : va_D A [eK qk qh qb ql K kc, eG cI qh hol, (qb, .inl (cO, 10, .inr (.inr (.inr (.inr (va_up (fun i => if i < nb then some (ab i) else none) (K 4).toNatClampNeg (some q12))))))), eL ql LG, eB q12 q13 v16, eS q13 q15 v14.1 v14.2.1, eD cI q15 v14.2.2.1 v14.2.2.2] := hD
            refine lv_aload_n hx hb dX4_addBond_134 rfl (lv_at hl 1 rfl) ?_
            refine lv_dup hx hb dX4_addBond_135 rfl ?_
            refine va_get (D := D) (ci := 3) (v := .int (K 4)) (C := RX4) (T := TX4) (N := 8) hx hb hts inX4_addBond_X4 hown hK hP 0 rfl rfl 4 (by decide) (hts (.fieldLink RX4 114 "BondDesk" "bondCount" "I") (by decide +kernel)) (fun _ h9 => h9) rfl dX4_addBond_136 ?_
            refine lv_iconst (v := 1) hx hb dX4_addBond_139 (by decide) ?_
            refine lv_iadd hx hb dX4_addBond_140 ?_
            refine lv_topi (fun x18 ex18 => ?_)
            have hf := bd_s hf ex18
            refine va_put (D := D) (ci := 3) (v := .int x18) (ty := .int) (C := RX4) (T := TX4) (N := 8) hx hb hts inX4_addBond_X4 tyX4 tyX4_ok nmX4 hown hK hP hD hS 0 rfl rfl 4 (by decide) (hts (.fieldLink RX4 114 "BondDesk" "bondCount" "I") (by decide +kernel)) (fun _ h9 => h9) rfl (by decide +kernel) rfl rfl (Nat.le_of_ble_eq_true rfl) dX4_addBond_141 (fun H locs hP hD hS => ?_)
            have hP : va_P D vwCl [eK qk qh qb ql (va_up K 4 x18) kc, eG cI qh hol, (qb, .inl (cO, 10, .inr (.inr (.inr (.inr (va_up (fun i => if i < nb then some (ab i) else none) (K 4).toNatClampNeg (some q12))))))), eL ql LG, eB q12 q13 v16, eS q13 q15 v14.1 v14.2.1, eD cI q15 v14.2.2.1 v14.2.2.2] H := hP
            have hD : va_D A [eK qk qh qb ql (va_up K 4 x18) kc, eG cI qh hol, (qb, .inl (cO, 10, .inr (.inr (.inr (.inr (va_up (fun i => if i < nb then some (ab i) else none) (K 4).toNatClampNeg (some q12))))))), eL ql LG, eB q12 q13 v16, eS q13 q15 v14.1 v14.2.1, eD cI q15 v14.2.2.1 v14.2.2.2] := hD
            refine lv_aload_n hx hb dX4_addBond_144 rfl (lv_at hl 1 rfl) ?_
            refine va_get (D := D) (ci := 3) (v := .int x18) (C := RX4) (T := TX4) (N := 8) hx hb hts inX4_addBond_X4 hown hK hP 0 rfl rfl 4 (by decide) (hts (.fieldLink RX4 114 "BondDesk" "bondCount" "I") (by decide +kernel)) (fun _ h9 => h9) rfl dX4_addBond_145 ?_
            refine lv_iconst (v := 1) hx hb dX4_addBond_148 (by decide) ?_
            refine lv_isub hx hb dX4_addBond_149 ?_
            refine vx_ret ?_
            refine W.widen (k := 8) (n := 168) (Nat.le_of_ble_eq_true rfl) (Nat.le_of_ble_eq_true rfl) ?_
            have e9 := Option.some.inj hf
            subst e9
            exact W.iret hx hb hr (fun t ht hW => ⟨_, rfl, rfl, (q12, q13, q15), by rw [ht]; exact hP, hD, hS.F ht⟩) hS.2.2 dX4_addBond_150
          · have hf := ie hf c11
            obtain ⟨sa, hsa⟩ := hT.2.2.1 (117, "there are 10 bonds") (by decide +kernel)
            exact vx_throwS (names := ["java/lang/RuntimeException", "java/lang/Exception"]) (A := A) hx hb hl0 hown (by decide) (by decide) (hts (.classLink RX4 73 "java/lang/IllegalStateException") (by decide +kernel)) (hts (.initialized "java/lang/IllegalStateException") (by decide +kernel)) hsa (vx_hat (fun w hw => hts w (atX4_addBond_77 w hw)) thr_ng77 (fun w hw => va_any (thr_ot w hw) (hT.2.2.2 w hw))) (by decide +kernel) hT.1 hT.2.1 va_S.rf (hl.1.trans hml.symm) dX4_addBond_88 dX4_addBond_91 dX4_addBond_92 dX4_addBond_94 dX4_addBond_97 (fun x h => (hte x h).elim) (Nat.le_of_ble_eq_true rfl) (Nat.le_of_ble_eq_true rfl) (Nat.le_of_ble_eq_true rfl) (Nat.le_of_ble_eq_true rfl) hlocks (fun t _ h1 h2 => ⟨(Option.some.inj hf).symm, h1, fun q h3 _ => h2 q h3⟩) (fun z hz => absurd hz List.not_mem_nil) (Nat.le_of_ble_eq_true rfl) (Nat.le_of_ble_eq_true rfl)
      · have hf := ie hf c9
        obtain ⟨sa, hsa⟩ := hT.2.2.1 (112, "the first period begins earlier than 20160101") (by decide +kernel)
        exact vx_throwS (names := ["java/lang/RuntimeException", "java/lang/Exception"]) (A := A) hx hb hl0 hown (by decide) (by decide) (hts (.classLink RX4 44 "java/lang/IllegalArgumentException") (by decide +kernel)) (hts (.initialized "java/lang/IllegalArgumentException") (by decide +kernel)) hsa (vx_hat (fun w hw => hts w (atX4_addBond_48 w hw)) thr_ng48 (fun w hw => va_any (thr_ot w hw) (hT.2.2.2 w hw))) (by decide +kernel) hT.1 hT.2.1 va_S.rf (hl.1.trans hml.symm) dX4_addBond_59 dX4_addBond_62 dX4_addBond_63 dX4_addBond_65 dX4_addBond_68 (fun x h => (hte x h).elim) (Nat.le_of_ble_eq_true rfl) (Nat.le_of_ble_eq_true rfl) (Nat.le_of_ble_eq_true rfl) (Nat.le_of_ble_eq_true rfl) hlocks (fun t _ h1 h2 => ⟨(Option.some.inj hf).symm, h1, fun q h3 _ => h2 q h3⟩) (fun z hz => absurd hz List.not_mem_nil) (Nat.le_of_ble_eq_true rfl) (Nat.le_of_ble_eq_true rfl)
    · have hf := ie hf c7
      obtain ⟨sa, hsa⟩ := hT.2.2.1 (106, "there would be more than 120 coupon dates") (by decide +kernel)
      exact vx_throwS (names := ["java/lang/RuntimeException", "java/lang/Exception"]) (A := A) hx hb hl0 hown (by decide) (by decide) (hts (.classLink RX4 44 "java/lang/IllegalArgumentException") (by decide +kernel)) (hts (.initialized "java/lang/IllegalArgumentException") (by decide +kernel)) hsa (vx_hat (fun w hw => hts w (atX4_addBond_48 w hw)) thr_ng48 (fun w hw => va_any (thr_ot w hw) (hT.2.2.2 w hw))) (by decide +kernel) hT.1 hT.2.1 va_S.rf (hl.1.trans hml.symm) dX4_addBond_36 dX4_addBond_39 dX4_addBond_40 dX4_addBond_42 dX4_addBond_45 (fun x h => (hte x h).elim) (Nat.le_of_ble_eq_true rfl) (Nat.le_of_ble_eq_true rfl) (Nat.le_of_ble_eq_true rfl) (Nat.le_of_ble_eq_true rfl) hlocks (fun t _ h1 h2 => ⟨(Option.some.inj hf).symm, h1, fun q h3 _ => h2 q h3⟩) (fun z hz => absurd hz List.not_mem_nil) (Nat.le_of_ble_eq_true rfl) (Nat.le_of_ble_eq_true rfl)
theorem inX4_lookAtBonds_X4 : ∀ w ∈ wsX40, w ∈ wsX4_lookAtBonds := by decide +kernel
set_option maxHeartbeats 4000000 in
set_option maxRecDepth 100000 in
theorem m_X4_lookAtBonds (l : Launch) (D : va_G) (cI cJ cO : ClassId) (ah : Nat) (qk : Nat) (qh : Nat) (qb : Nat) (ql : Nat) (ab : Nat → Nat) (as_ : Nat → Nat) (ad : Nat → Nat) (K : Nat → Int32) (kc : Int64) (hol : Nat → Int32) (LG : Nat → Int64) (nb : Nat) (bB : Nat → Nat → Int32) (bS : Nat → Nat → Int32) (bT : Nat → Nat → Int64) (bn : Nat → Nat) (bds : Nat → Nat → Int32) (sz : Nat) (N : Nat) (r : (Nat → Int64) × (Nat → Nat → Int32)) (hf : f_X4_lookAtBonds N K LG nb bB bS bT bn bds = some r) : Met l yX4_lookAtBonds wsX4_lookAtBonds ({ frames := 6, cells := 0, slots := 0, locals := 139 }) (va_Pc [.ref qk] (mP D (ty3 cI cJ cO) (some ah) ([eK qk qh qb ql K kc, eG cI qh hol, eF cO qb nb ab, eL ql LG] ++ bl nb (fam cI ab as_ ad bB bS bT bn bds)) sz)) (mQv D (va_A ([eK qk qh qb ql K kc, eG cI qh hol, eF cO qb nb ab, eL ql LG] ++ bl nb (fam cI ab as_ ad bB bS bT bn bds)) sz) ([eK qk qh qb ql K kc, eG cI qh hol, eF cO qb nb ab, eL ql r.1] ++ bl nb (fam cI ab as_ ad r.2 bS bT bn bds))) 0 0 (va_A ([eK qk qh qb ql K kc, eG cI qh hol, eF cO qb nb ab, eL ql LG] ++ bl nb (fam cI ab as_ ad bB bS bT bn bds)) sz) := by
  refine Met.ofW (cc := cX4_lookAtBonds) (maxL := 5) (ret := none) (by decide) rfl ?_
  intro p e s m args below meth c s₁ Bd hml hv
  obtain ⟨rfl, hsz, hZ, hP, hK, hD0⟩ := hv
  have hx := Bd.exec
  have hb := Bd.bytes
  have hr := Bd.returns
  have hts := atoms_spec (ws := wsX4_lookAtBonds) Bd.pre
  have hown : s.vm.findClass RX4 = some m.cls := findClass_of_methodNamed Bd.named
  have hlocks := Bd.notSynchronized
  subst hsz
  have hD := hD0.self (sz := s.heap.size)
  generalize hAe : va_A ([eK qk qh qb ql K kc, eG cI qh hol, eF cO qb nb ab, eL ql LG] ++ bl nb (fam cI ab as_ ad bB bS bT bn bds)) s.heap.size = A at hD hZ ⊢
  have hA : ∀ q : Nat, s.heap.size ≤ q → A q := fun q h => by rw [← hAe]; exact Or.inr h
  have hS : va_S A s.heap s.heap [] := va_S.rf
  have hl := lv_entry ([.ref qk]) (n := 5) (Nat.le_of_ble_eq_true rfl)
  rw [lg_entry_eq]
  generalize (lg_sl ([.ref qk]) ++ List.replicate (5 - (lg_sl ([.ref qk])).length) Slot.unset).toArray = ls at hl ⊢
  have hl : lv_has ls 5 [(0, .ref qk)] := hl
  unfold f_X4_lookAtBonds at hf
  refine lv_aload_n hx hb dX4_lookAtBonds_0 rfl (lv_at hl 0 rfl) ?_
  refine va_get (D := D) (ci := 3) (v := .ref qb) (C := RX4) (T := TX4) (N := 8) hx hb hts inX4_lookAtBonds_X4 hown hK hP 0 rfl rfl 1 (by decide) (hts (.fieldLink RX4 15 "BondDesk" "bonds" "[LBondDesk$Bond;") (by decide +kernel)) (fun _ h9 => h9) rfl dX4_lookAtBonds_1 ?_
  refine lv_astore_n (lv' := [(1, .ref qb), (0, .ref qk)]) hx hb dX4_lookAtBonds_4 rfl hl (by decide) rfl (fun ls hl => ?_)
  refine lv_aload_n hx hb dX4_lookAtBonds_5 rfl (lv_at hl 0 rfl) ?_
  refine va_alen (v := 10) hx hb hK hP 2 2 rfl rfl rfl dX4_lookAtBonds_6 ?_
  refine lv_istore_n (lv' := [(2, .int 10), (1, .ref qb), (0, .ref qk)]) hx hb dX4_lookAtBonds_7 rfl hl (by decide) rfl (fun ls hl => ?_)
  refine lv_iconst (v := 0) hx hb dX4_lookAtBonds_8 (by decide) ?_
  refine lv_istore_n (lv' := [(3, .int 0), (2, .int 10), (1, .ref qb), (0, .ref qk)]) hx hb dX4_lookAtBonds_9 rfl hl (by decide) rfl (fun ls hl => ?_)
  obtain ⟨K4, hK4, hf⟩ := kx_s (P := fun k => f_X4_lookAtBonds_L10 nb N bS bT bn bds K k N 0 LG bB = some r) hf
  have JK4 : ∀ (w5 : Nat → Int64) (w6 : Nat → Nat → Int32) (H : Heap) (locs : List Loc), va_P D vwCl ([eK qk qh qb ql K kc, eG cI qh hol, eF cO qb nb ab, eL ql w5] ++ bl nb (fam cI ab as_ ad w6 bS bT bn bds)) H → va_D A ([eK qk qh qb ql K kc, eG cI qh hol, eF cO qb nb ab, eL ql w5] ++ bl nb (fam cI ab as_ ad w6 bS bT bn bds)) → va_S A s.heap H locs → ∀ (ls : Array Slot), lv_has ls 5 [] → K4 w5 w6 = some r → W p l e (headSpec wsX4_lookAtBonds ({ frames := 6, cells := 0, slots := 0, locals := 139 })).room s m ([.ref qk] : List Value).toArray below meth c H locs 0 0 (MQ below (mQv D A ([eK qk qh qb ql K kc, eG cI qh hol, eF cO qb nb ab, eL ql r.1] ++ bl nb (fam cI ab as_ ad r.2 bS bT bn bds))) ([.ref qk] : List Value).toArray s 0 0 A) (F0 m 48 ls []) := by
    intro w5 w6 H locs hP hD hS ls hl hf
    rw [hK4] at hf
    refine W.widen (k := 0) (n := 0) (Nat.le_of_ble_eq_true rfl) (Nat.le_of_ble_eq_true rfl) ?_
    have e9 := Option.some.inj hf
    subst e9
    exact W.vret hx hb hr (fun t ht hW => ⟨⟨(), rfl, trivial, by rw [ht]; exact hP, hD⟩, hS.F ht⟩) hS.2.2 dX4_lookAtBonds_48
  have LP10 : ∀ (n7 : Nat) (x1 : Int32) (w2 : Nat → Int64) (w3 : Nat → Nat → Int32) (H : Heap) (locs : List Loc), va_P D vwCl ([eK qk qh qb ql K kc, eG cI qh hol, eF cO qb nb ab, eL ql w2] ++ bl nb (fam cI ab as_ ad w3 bS bT bn bds)) H → va_D A ([eK qk qh qb ql K kc, eG cI qh hol, eF cO qb nb ab, eL ql w2] ++ bl nb (fam cI ab as_ ad w3 bS bT bn bds)) → va_S A s.heap H locs → ∀ (ls : Array Slot), lv_has ls 5 [(0, .ref qk), (1, .ref qb), (2, .int 10), (3, .int x1)] → f_X4_lookAtBonds_L10 nb N bS bT bn bds K K4 n7 x1 w2 w3 = some r → W p l e (headSpec wsX4_lookAtBonds ({ frames := 6, cells := 0, slots := 0, locals := 139 })).room s m ([.ref qk] : List Value).toArray below meth c H locs 0 0 (MQ below (mQv D A ([eK qk qh qb ql K kc, eG cI qh hol, eF cO qb nb ab, eL ql r.1] ++ bl nb (fam cI ab as_ ad r.2 bS bT bn bds))) ([.ref qk] : List Value).toArray s 0 0 A) (F0 m 10 ls []) := by
    intro n7
    induction n7 with
    | zero => intro x1 w2 w3 H locs hP hD hS ls hl hf; exact (no_s hf).elim
    | succ n7 ih7 =>
      intro x1 w2 w3 H locs hP hD hS ls hl hf
      rw [f_X4_lookAtBonds_L10] at hf
      refine lv_iload_n hx hb dX4_lookAtBonds_10 rfl (lv_at hl 3 rfl) ?_
      refine lv_iload_n hx hb dX4_lookAtBonds_11 rfl (lv_at hl 2 rfl) ?_
      refine lv_icmp_ge (tgt := 48) hx hb dX4_lookAtBonds_12 (by decide) (fun c8 => ?_) (fun c8 => ?_)
      · have hf := it hf c8
        exact JK4 w2 w3 _ _ hP hD hS ls (lv_sub hl [] rfl) hf
      · have hf := ie hf c8
        refine lv_aload_n hx hb dX4_lookAtBonds_15 rfl (lv_at hl 1 rfl) ?_
        refine lv_iload_n hx hb dX4_lookAtBonds_16 rfl (lv_at hl 3 rfl) ?_
        obtain ⟨c9, hf⟩ := gd_s hf
        refine aldB hx hb hK hP 2 2 rfl rfl c9 dX4_lookAtBonds_17 (fun c10 => ?_) (fun c10 => ?_)
        · have hf := it hf c10
          refine lv_astore (lv' := [(4, .ref (ab x1.toNatClampNeg)), (0, .ref qk), (1, .ref qb), (2, .int 10), (3, .int x1)]) hx hb dX4_lookAtBonds_18 hl (by decide) rfl (fun ls hl => ?_)
          refine lv_aload hx hb dX4_lookAtBonds_20 (lv_at hl 0 rfl) ?_
          refine lv_ifnull hx hb dX4_lookAtBonds_22 ?_
          refine lv_aload hx hb dX4_lookAtBonds_25 (lv_at hl 0 rfl) ?_
          refine lv_aload_n hx hb dX4_lookAtBonds_27 rfl (lv_at hl 1 rfl) ?_
          refine va_get (D := D) (ci := 3) (v := .int (K 5)) (C := RX4) (T := TX4) (N := 8) hx hb hts inX4_lookAtBonds_X4 hown hK hP 0 rfl rfl 5 (by decide) (hts (.fieldLink RX4 27 "BondDesk" "today" "I") (by decide +kernel)) (fun _ h9 => h9) rfl dX4_lookAtBonds_28 ?_
          refine lv_aload_n hx hb dX4_lookAtBonds_31 rfl (lv_at hl 1 rfl) ?_
          refine va_get (D := D) (ci := 3) (v := .int (K 7)) (C := RX4) (T := TX4) (N := 8) hx hb hts inX4_lookAtBonds_X4 hown hK hP 0 rfl rfl 7 (by decide) (hts (.fieldLink RX4 37 "BondDesk" "refinancing" "I") (by decide +kernel)) (fun _ h9 => h9) rfl dX4_lookAtBonds_32 ?_
          refine lv_aload_n hx hb dX4_lookAtBonds_35 rfl (lv_at hl 1 rfl) ?_
          refine va_get (D := D) (ci := 3) (v := .ref ql) (C := RX4) (T := TX4) (N := 8) hx hb hts inX4_lookAtBonds_X4 hown hK hP 0 rfl rfl 2 (by decide) (hts (.fieldLink RX4 22 "BondDesk" "paid" "LBondDesk$Ledger;") (by decide +kernel)) (fun _ h9 => h9) rfl dX4_lookAtBonds_36 ?_
          obtain ⟨v11, hv11, hf⟩ := ob hf
          have hPc := bl_cutP (X := [eK qk qh qb ql K kc, eG cI qh hol, eF cO qb nb ab]) hP c10
          have hDc := bl_cutD (X := [eK qk qh qb ql K kc, eG cI qh hol, eF cO qb nb ab]) hD c10
          have hFc := bl_free (X := [eK qk qh qb ql K kc, eG cI qh hol, eF cO qb nb ab]) hD hS hA c10
          refine va_callv (va_runV (As := [.int (K 5), .int (K 7), .ref ql]) (rest := []) ⟨hx, hb, hml, hown, hts⟩ (m_X0_lookUpTo l D cI cJ cO ah (ab x1.toNatClampNeg) (as_ x1.toNatClampNeg) (ad x1.toNatClampNeg) ql (w3 x1.toNatClampNeg) (bS x1.toNatClampNeg) (bT x1.toNatClampNeg) (bn x1.toNatClampNeg) (bds x1.toNatClampNeg) w2 H.size (K 5) (K 7) N v11 hv11) (cwV 3 hts gX4_lookAtBonds_X0_lookUpTo rfl rfl rfl (by decide +kernel) ⟨(Nat.le_of_ble_eq_true rfl), (Nat.le_of_ble_eq_true rfl)⟩) ⟨mp_blind, va_recv hK (bl_fam hP x1.toNatClampNeg c10) (ci := 0) (q0 := 2) rfl rfl, fun U hU hW => ⟨rfl, mp_at hZ hS hPc hK hDc hFc hU hW (Or.inr rfl)⟩⟩ rfl rfl hl.1 rfl (lv_room (Nat.le_of_ble_eq_true rfl)) dX4_lookAtBonds_39 ⟨(Nat.le_of_ble_eq_true rfl), (Nat.le_of_ble_eq_true rfl)⟩) hS (fun q _ h => hFc q h) hFc (fun u t H1 locs ht9 hvm hw hBx hz1 hk1 hS => ?_)
          obtain ⟨hP1, hD1⟩ := hBx
          rw [ht9] at hP1
          obtain ⟨hP, hD⟩ := bl_join (X := [eK qk qh qb ql K kc, eG cI qh hol, eF cO qb nb ab]) (e2 := eL ql v11.2) (f2 := (fam cI ab as_ ad (va_up w3 x1.toNatClampNeg v11.1) bS bT bn bds)) hP hD c10 hk1 hP1 rfl (fun j hj => by simp [fam, va_up, hj]) rfl (by simp [fam, va_up])
          generalize H1 = H at hP hS ⊢
          obtain ⟨x12, ex12⟩ : ∃ y : Int32, y = x1 + 1 := ⟨_, rfl⟩
          have hf := bd_s hf ex12
          refine lv_iinc (v := x12) (lv' := [(3, .int x12), (4, .ref (ab x1.toNatClampNeg)), (0, .ref qk), (1, .ref qb), (2, .int 10)]) hx hb dX4_lookAtBonds_42 hl (k := 4) rfl (by rw [ex12]; rfl) (by decide) rfl (fun ls hl => ?_)
          refine lv_goto (tgt := 10) hx hb dX4_lookAtBonds_45 (by decide) ?_
          exact ih7 x12 v11.2 (va_up w3 x1.toNatClampNeg v11.1) _ _ hP hD hS ls (lv_sub hl [2, 3, 4, 0] rfl) hf
        · have hf := ie hf c10
          refine lv_astoreN (lv' := [(4, .null), (0, .ref qk), (1, .ref qb), (2, .int 10), (3, .int x1)]) hx hb dX4_lookAtBonds_18 hl (by decide) rfl (fun ls hl => ?_)
          refine lv_aloadN hx hb dX4_lookAtBonds_20 (lv_at hl 0 rfl) ?_
          refine lv_ifnullN (tgt := 42) hx hb dX4_lookAtBonds_22 (by decide) ?_
          obtain ⟨x13, ex13⟩ : ∃ y : Int32, y = x1 + 1 := ⟨_, rfl⟩
          have hf := bd_s hf ex13
          refine lv_iinc (v := x13) (lv' := [(3, .int x13), (4, .null), (0, .ref qk), (1, .ref qb), (2, .int 10)]) hx hb dX4_lookAtBonds_42 hl (k := 4) rfl (by rw [ex13]; rfl) (by decide) rfl (fun ls hl => ?_)
          refine lv_goto (tgt := 10) hx hb dX4_lookAtBonds_45 (by decide) ?_
          exact ih7 x13 w2 w3 _ _ hP hD hS ls (lv_sub hl [2, 3, 4, 0] rfl) hf
  exact LP10 N 0 LG bB _ _ hP hD hS ls (lv_sub hl [3, 2, 1, 0] rfl) hf
theorem inX4_pass_X4 : ∀ w ∈ wsX40, w ∈ wsX4_pass := by decide +kernel
theorem atX4_pass_48 : ∀ w ∈ (vx_atS RX4 48 "java/lang/IllegalArgumentException" ["java/lang/RuntimeException", "java/lang/Exception"]).filter goodWord, w ∈ wsX4_pass := by decide +kernel
theorem atX4_pass_77 : ∀ w ∈ (vx_atS RX4 77 "java/lang/IllegalStateException" ["java/lang/RuntimeException", "java/lang/Exception"]).filter goodWord, w ∈ wsX4_pass := by decide +kernel
set_option maxHeartbeats 4000000 in
set_option maxRecDepth 100000 in
theorem m_X4_pass (l : Launch) (D : va_G) (cI cJ cO : ClassId) (ah : Nat) (qk : Nat) (qh : Nat) (qb : Nat) (ql : Nat) (ab : Nat → Nat) (as_ : Nat → Nat) (ad : Nat → Nat) (K : Nat → Int32) (kc : Int64) (hol : Nat → Int32) (LG : Nat → Int64) (nb : Nat) (bB : Nat → Nat → Int32) (bS : Nat → Nat → Int32) (bT : Nat → Nat → Int64) (bn : Nat → Nat) (bds : Nat → Nat → Int32) (sz : Nat) (a0 : Int32) (N : Nat) (r : (Int64 × (Nat → Int32) × Int64 × (Nat → Int64) × (Nat → Nat → Int32)) ⊕ String) (hl0 : l.stackTraces = false) (hf : f_X4_pass N K kc hol LG nb bB bS bT bn bds a0 = some r) : vx_Met l yX4_pass wsX4_pass ({ frames := 7, cells := 1, slots := 6, locals := 163 }) (va_Pc [.ref qk, .int a0] (tP D (ty3 cI cJ cO) (some ah) ([eK qk qh qb ql K kc, eG cI qh hol, eF cO qb nb ab, eL ql LG] ++ bl nb (fam cI ab as_ ad bB bS bT bn bds)) sz)) (tQl D (va_A ([eK qk qh qb ql K kc, eG cI qh hol, eF cO qb nb ab, eL ql LG] ++ bl nb (fam cI ab as_ ad bB bS bT bn bds)) sz) r (fun u => u.1) (fun u => ([eK qk qh qb ql u.2.1 u.2.2.1, eG cI qh hol, eF cO qb nb ab, eL ql u.2.2.2.1] ++ bl nb (fam cI ab as_ ad u.2.2.2.2 bS bT bn bds)))) (XT r) 1 6 (va_A ([eK qk qh qb ql K kc, eG cI qh hol, eF cO qb nb ab, eL ql LG] ++ bl nb (fam cI ab as_ ad bB bS bT bn bds)) sz) := by
  refine vx_ofW (cc := cX4_pass) (maxL := 7) (ret := (some .long)) (by decide) rfl ?_
  intro p e s m args below meth c s₁ Bd hml hte hv
  obtain ⟨rfl, ⟨hsz, hZ, hP, hK, hD0⟩, hT⟩ := hv
  have hx := Bd.exec
  have hb := Bd.bytes
  have hr := Bd.returns
  have hts := atoms_spec (ws := wsX4_pass) Bd.pre
  have hown : s.vm.findClass RX4 = some m.cls := findClass_of_methodNamed Bd.named
  have hlocks := Bd.notSynchronized
  subst hsz
  have hD := hD0.self (sz := s.heap.size)
  generalize hAe : va_A ([eK qk qh qb ql K kc, eG cI qh hol, eF cO qb nb ab, eL ql LG] ++ bl nb (fam cI ab as_ ad bB bS bT bn bds)) s.heap.size = A at hD hZ hT ⊢
  have hA : ∀ q : Nat, s.heap.size ≤ q → A q := fun q h => by rw [← hAe]; exact Or.inr h
  have hS : va_S A s.heap s.heap [] := va_S.rf
  have hl := lv_entry ([.ref qk, .int a0]) (n := 7) (Nat.le_of_ble_eq_true rfl)
  rw [lg_entry_eq]
  generalize (lg_sl ([.ref qk, .int a0]) ++ List.replicate (7 - (lg_sl ([.ref qk, .int a0])).length) Slot.unset).toArray = ls at hl ⊢
  have hl : lv_has ls 7 [(0, .ref qk), (1, .int a0)] := hl
  unfold f_X4_pass at hf
  refine lv_iload_n hx hb dX4_pass_0 rfl (lv_at hl 1 rfl) ?_
  refine lv_iconst (v := 1) hx hb dX4_pass_1 (by decide) ?_
  refine lv_icmp_lt (tgt := 12) hx hb dX4_pass_2 (by decide) (fun c1 => ?_) (fun c1 => ?_)
  · have hf := it hf c1
    obtain ⟨sa, hsa⟩ := hT.2.2.1 (257, "days is not 1 to 400") (by decide +kernel)
    exact vx_throwSW (names := ["java/lang/RuntimeException", "java/lang/Exception"]) (A := A) hx hb hl0 hown (by decide) (by decide) (hts (.classLink RX4 44 "java/lang/IllegalArgumentException") (by decide +kernel)) (hts (.initialized "java/lang/IllegalArgumentException") (by decide +kernel)) hsa (vx_hat (fun w hw => hts w (atX4_pass_48 w hw)) thr_ng48 (fun w hw => va_any (thr_ot w hw) (hT.2.2.2 w hw))) (by decide +kernel) hT.1 hT.2.1 va_S.rf (hl.1.trans hml.symm) dX4_pass_12 dX4_pass_15 dX4_pass_16 dX4_pass_19 dX4_pass_22 (fun x h => (hte x h).elim) (Nat.le_of_ble_eq_true rfl) (Nat.le_of_ble_eq_true rfl) (Nat.le_of_ble_eq_true rfl) (Nat.le_of_ble_eq_true rfl) hlocks (fun t _ h1 h2 => ⟨(Option.some.inj hf).symm, h1, fun q h3 _ => h2 q h3⟩) (fun z hz => absurd hz List.not_mem_nil) (Nat.le_of_ble_eq_true rfl) (Nat.le_of_ble_eq_true rfl)
  · have hf := ie hf c1
    refine lv_iload_n hx hb dX4_pass_5 rfl (lv_at hl 1 rfl) ?_
    refine lv_sipush (v := 400) hx hb dX4_pass_6 (by decide) ?_
    refine lv_icmp_le (tgt := 23) hx hb dX4_pass_9 (by decide) (fun c2 => ?_) (fun c2 => ?_)
    · have hf := it hf c2
      refine lv_aload_n hx hb dX4_pass_23 rfl (lv_at hl 0 rfl) ?_
      refine va_get (D := D) (ci := 3) (v := .int (K 5)) (C := RX4) (T := TX4) (N := 8) hx hb hts inX4_pass_X4 hown hK hP 0 rfl rfl 5 (by decide) (hts (.fieldLink RX4 27 "BondDesk" "today" "I") (by decide +kernel)) (fun _ h9 => h9) rfl dX4_pass_24 ?_
      obtain ⟨v3, hv3, hf⟩ := ob hf
      refine cSi (W.runS (As := [.int (K 5)]) (rest := []) ⟨hx, hb, hml, hown, hts⟩ (m_X1_dayNumber l D cI cJ cO ah (K 5) v3 hv3) (va_cwS 1 hts gX4_pass_X1_dayNumber rfl rfl rfl (by decide +kernel) ⟨(Nat.le_of_ble_eq_true rfl), (Nat.le_of_ble_eq_true rfl)⟩) ⟨pw_blind, fun U hU hW => ⟨rfl, pw_at hZ hS hP hK hU hW (Or.inr rfl) [] rfl⟩⟩ rfl rfl hl.1 rfl (lv_room (Nat.le_of_ble_eq_true rfl)) dX4_pass_27 ⟨(Nat.le_of_ble_eq_true rfl), (Nat.le_of_ble_eq_true rfl)⟩) ?_
      refine lv_istore_n (lv' := [(2, .int v3), (0, .ref qk), (1, .int a0)]) hx hb dX4_pass_30 rfl hl (by decide) rfl (fun ls hl => ?_)
      refine lv_iload_n hx hb dX4_pass_31 rfl (lv_at hl 0 rfl) ?_
      refine lv_iload_n hx hb dX4_pass_32 rfl (lv_at hl 2 rfl) ?_
      refine lv_iadd hx hb dX4_pass_33 ?_
      refine lv_ldc hx hb hown (hts (.constant RX4 78 (20661101)) (by decide +kernel)) dX4_pass_34 ?_
      obtain ⟨v4, hv4, hf⟩ := ob hf
      refine cSi (W.runS (As := [.int 20661101]) (rest := [.int (v3 + a0)]) ⟨hx, hb, hml, hown, hts⟩ (m_X1_dayNumber l D cI cJ cO ah 20661101 v4 hv4) (va_cwS 1 hts gX4_pass_X1_dayNumber rfl rfl rfl (by decide +kernel) ⟨(Nat.le_of_ble_eq_true rfl), (Nat.le_of_ble_eq_true rfl)⟩) ⟨pw_blind, fun U hU hW => ⟨rfl, pw_at hZ hS hP hK hU hW (Or.inr rfl) [] rfl⟩⟩ rfl rfl hl.1 rfl (lv_room (Nat.le_of_ble_eq_true rfl)) dX4_pass_36 ⟨(Nat.le_of_ble_eq_true rfl), (Nat.le_of_ble_eq_true rfl)⟩) ?_
      refine lv_icmp_le (tgt := 53) hx hb dX4_pass_39 (by decide) (fun c5 => ?_) (fun c5 => ?_)
      · have hf := it hf c5
        refine lv_aload_n hx hb dX4_pass_53 rfl (lv_at hl 1 rfl) ?_
        refine va_get (D := D) (ci := 3) (v := .ref ql) (C := RX4) (T := TX4) (N := 8) hx hb hts inX4_pass_X4 hown hK hP 0 rfl rfl 2 (by decide) (hts (.fieldLink RX4 22 "BondDesk" "paid" "LBondDesk$Ledger;") (by decide +kernel)) (fun _ h9 => h9) rfl dX4_pass_54 ?_
        obtain ⟨v6, hv6, hf⟩ := ob hf
        refine cSl (W.runV (As := []) (rest := []) ⟨hx, hb, hml, hown, hts⟩ (m_X2_all l D cI cJ cO ah ql LG v6 hv6) (cwV 0 hts gX4_pass_X2_all rfl rfl rfl (by decide +kernel) ⟨(Nat.le_of_ble_eq_true rfl), (Nat.le_of_ble_eq_true rfl)⟩) ⟨pw_blind, va_recv hK hP (ci := 1) (q0 := 3) rfl rfl, fun U hU hW => ⟨rfl, pw_at hZ hS hP hK hU hW (Or.inl rfl) [3] rfl⟩⟩ rfl rfl hl.1 rfl (lv_room (Nat.le_of_ble_eq_true rfl)) dX4_pass_57 ⟨(Nat.le_of_ble_eq_true rfl), (Nat.le_of_ble_eq_true rfl)⟩) ?_
        refine lv_lstore_n (lv' := [(3, .long v6), (2, .int v3), (0, .ref qk), (1, .int a0)]) hx hb dX4_pass_60 rfl hl (by decide) rfl (fun ls hl => ?_)
        refine lv_iconst (v := 1) hx hb dX4_pass_61 (by decide) ?_
        refine lv_istore (lv' := [(5, .int 1), (3, .long v6), (2, .int v3), (0, .ref qk), (1, .int a0)]) hx hb dX4_pass_62 hl (by decide) rfl (fun ls hl => ?_)
        obtain ⟨K12, hK12, hf⟩ := kx_s (P := fun k => f_X4_pass_L64 a0 N v3 hol nb bS bT bn bds k N 1 K kc LG bB = some r) hf
        have JK12 : ∀ (w13 : Nat → Int32) (w14 : Int64) (w15 : Nat → Int64) (w16 : Nat → Nat → Int32) (H : Heap) (locs : List Loc), va_P D vwCl ([eK qk qh qb ql w13 w14, eG cI qh hol, eF cO qb nb ab, eL ql w15] ++ bl nb (fam cI ab as_ ad w16 bS bT bn bds)) H → va_D A ([eK qk qh qb ql w13 w14, eG cI qh hol, eF cO qb nb ab, eL ql w15] ++ bl nb (fam cI ab as_ ad w16 bS bT bn bds)) → va_S A s.heap H locs → ∀ (ls : Array Slot), lv_has ls 7 [(0, .ref qk), (3, .long v6)] → K12 w13 w14 w15 w16 = some r → W p l e (headSpec wsX4_pass ({ frames := 7, cells := 1, slots := 6, locals := 163 })).room s m ([.ref qk, .int a0] : List Value).toArray below meth c H locs 0 0 (vx_MQ below (tQl D A r (fun u => u.1) (fun u => ([eK qk qh qb ql u.2.1 u.2.2.1, eG cI qh hol, eF cO qb nb ab, eL ql u.2.2.2.1] ++ bl nb (fam cI ab as_ ad u.2.2.2.2 bS bT bn bds)))) (XT r) ([.ref qk, .int a0] : List Value).toArray s 1 6 A) (F0 m 102 ls []) := by
          intro w13 w14 w15 w16 H locs hP hD hS ls hl hf
          rw [hK12] at hf
          refine lv_aload_n hx hb dX4_pass_102 rfl (lv_at hl 0 rfl) ?_
          refine va_get (D := D) (ci := 3) (v := .ref ql) (C := RX4) (T := TX4) (N := 8) hx hb hts inX4_pass_X4 hown hK hP 0 rfl rfl 2 (by decide) (hts (.fieldLink RX4 22 "BondDesk" "paid" "LBondDesk$Ledger;") (by decide +kernel)) (fun _ h9 => h9) rfl dX4_pass_103 ?_
          obtain ⟨v25, hv25, hf⟩ := ob hf
          refine cSl (W.runV (As := []) (rest := []) ⟨hx, hb, hml, hown, hts⟩ (m_X2_all l D cI cJ cO ah ql w15 v25 hv25) (cwV 0 hts gX4_pass_X2_all rfl rfl rfl (by decide +kernel) ⟨(Nat.le_of_ble_eq_true rfl), (Nat.le_of_ble_eq_true rfl)⟩) ⟨pw_blind, va_recv hK hP (ci := 1) (q0 := 3) rfl rfl, fun U hU hW => ⟨rfl, pw_at hZ hS hP hK hU hW (Or.inl rfl) [3] rfl⟩⟩ rfl rfl hl.1 rfl (lv_room (Nat.le_of_ble_eq_true rfl)) dX4_pass_106 ⟨(Nat.le_of_ble_eq_true rfl), (Nat.le_of_ble_eq_true rfl)⟩) ?_
          refine lv_lload_n hx hb dX4_pass_109 rfl (lv_at hl 1 rfl) ?_
          refine lv_lsub hx hb dX4_pass_110 ?_
          refine lv_topl (fun x26 ex26 => ?_)
          have hf := bd_s hf ex26
          refine lv_lstore (lv' := [(5, .long x26), (0, .ref qk), (3, .long v6)]) hx hb dX4_pass_111 hl (by decide) rfl (fun ls hl => ?_)
          refine lv_aload_n hx hb dX4_pass_113 rfl (lv_at hl 1 rfl) ?_
          refine lv_dup hx hb dX4_pass_114 rfl ?_
          refine va_get (D := D) (ci := 3) (v := .long w14) (C := RX4) (T := TX4) (N := 8) hx hb hts inX4_pass_X4 hown hK hP 0 rfl rfl 6 (by decide) (hts (.fieldLink RX4 33 "BondDesk" "cash" "J") (by decide +kernel)) (fun _ h9 => h9) rfl dX4_pass_115 ?_
          refine lv_lload hx hb dX4_pass_118 (lv_at hl 0 rfl) ?_
          refine lv_ladd hx hb dX4_pass_120 ?_
          refine lv_topl (fun x27 ex27 => ?_)
          have hf := bd_s hf ex27
          refine va_put (D := D) (ci := 3) (v := .long x27) (ty := .long) (C := RX4) (T := TX4) (N := 8) hx hb hts inX4_pass_X4 tyX4 tyX4_ok nmX4 hown hK hP hD hS 0 rfl rfl 6 (by decide) (hts (.fieldLink RX4 33 "BondDesk" "cash" "J") (by decide +kernel)) (fun _ h9 => h9) rfl (by decide +kernel) rfl rfl (Nat.le_of_ble_eq_true rfl) dX4_pass_121 (fun H locs hP hD hS => ?_)
          have hP : va_P D vwCl ([eK qk qh qb ql w13 x27, eG cI qh hol, eF cO qb nb ab, eL ql w15] ++ bl nb (fam cI ab as_ ad w16 bS bT bn bds)) H := hP
          have hD : va_D A ([eK qk qh qb ql w13 x27, eG cI qh hol, eF cO qb nb ab, eL ql w15] ++ bl nb (fam cI ab as_ ad w16 bS bT bn bds)) := hD
          refine lv_lload hx hb dX4_pass_124 (lv_at hl 0 rfl) ?_
          refine vx_ret ?_
          refine W.widen (k := 1) (n := 6) (Nat.le_of_ble_eq_true rfl) (Nat.le_of_ble_eq_true rfl) ?_
          have e9 := Option.some.inj hf
          subst e9
          exact W.lret hx hb hr (fun t ht hW => ⟨_, rfl, rfl, by rw [ht]; exact hP, hD, hS.F ht⟩) hS.2.2 dX4_pass_126
        have LP64 : ∀ (n17 : Nat) (x7 : Int32) (w8 : Nat → Int32) (w9 : Int64) (w10 : Nat → Int64) (w11 : Nat → Nat → Int32) (H : Heap) (locs : List Loc), va_P D vwCl ([eK qk qh qb ql w8 w9, eG cI qh hol, eF cO qb nb ab, eL ql w10] ++ bl nb (fam cI ab as_ ad w11 bS bT bn bds)) H → va_D A ([eK qk qh qb ql w8 w9, eG cI qh hol, eF cO qb nb ab, eL ql w10] ++ bl nb (fam cI ab as_ ad w11 bS bT bn bds)) → va_S A s.heap H locs → ∀ (ls : Array Slot), lv_has ls 7 [(0, .ref qk), (1, .int a0), (2, .int v3), (3, .long v6), (5, .int x7)] → f_X4_pass_L64 a0 N v3 hol nb bS bT bn bds K12 n17 x7 w8 w9 w10 w11 = some r → W p l e (headSpec wsX4_pass ({ frames := 7, cells := 1, slots := 6, locals := 163 })).room s m ([.ref qk, .int a0] : List Value).toArray below meth c H locs 0 0 (vx_MQ below (tQl D A r (fun u => u.1) (fun u => ([eK qk qh qb ql u.2.1 u.2.2.1, eG cI qh hol, eF cO qb nb ab, eL ql u.2.2.2.1] ++ bl nb (fam cI ab as_ ad u.2.2.2.2 bS bT bn bds)))) (XT r) ([.ref qk, .int a0] : List Value).toArray s 1 6 A) (F0 m 64 ls []) := by
          intro n17
          induction n17 with
          | zero => intro x7 w8 w9 w10 w11 H locs hP hD hS ls hl hf; exact (no_s hf).elim
          | succ n17 ih17 =>
            intro x7 w8 w9 w10 w11 H locs hP hD hS ls hl hf
            rw [f_X4_pass_L64] at hf
            refine lv_iload hx hb dX4_pass_64 (lv_at hl 4 rfl) ?_
            refine lv_iload_n hx hb dX4_pass_66 rfl (lv_at hl 1 rfl) ?_
            refine lv_icmp_gt (tgt := 102) hx hb dX4_pass_67 (by decide) (fun c18 => ?_) (fun c18 => ?_)
            · have hf := it hf c18
              exact JK12 w8 w9 w10 w11 _ _ hP hD hS ls (lv_sub hl [0, 3] rfl) hf
            · have hf := ie hf c18
              refine lv_aload_n hx hb dX4_pass_70 rfl (lv_at hl 0 rfl) ?_
              refine lv_iload_n hx hb dX4_pass_71 rfl (lv_at hl 2 rfl) ?_
              refine lv_iload hx hb dX4_pass_72 (lv_at hl 4 rfl) ?_
              refine lv_iadd hx hb dX4_pass_74 ?_
              obtain ⟨v19, hv19, hf⟩ := ob hf
              refine cSi (W.runS (As := [.int (v3 + x7)]) (rest := [.ref qk]) ⟨hx, hb, hml, hown, hts⟩ (m_X1_dateOf l D cI cJ cO ah (v3 + x7) N v19 hv19) (va_cwS 1 hts gX4_pass_X1_dateOf rfl rfl rfl (by decide +kernel) ⟨(Nat.le_of_ble_eq_true rfl), (Nat.le_of_ble_eq_true rfl)⟩) ⟨pw_blind, fun U hU hW => ⟨rfl, pw_at hZ hS hP hK hU hW (Or.inr rfl) [] rfl⟩⟩ rfl rfl hl.1 rfl (lv_room (Nat.le_of_ble_eq_true rfl)) dX4_pass_75 ⟨(Nat.le_of_ble_eq_true rfl), (Nat.le_of_ble_eq_true rfl)⟩) ?_
              refine va_put (D := D) (ci := 3) (v := .int v19) (ty := .int) (C := RX4) (T := TX4) (N := 8) hx hb hts inX4_pass_X4 tyX4 tyX4_ok nmX4 hown hK hP hD hS 0 rfl rfl 5 (by decide) (hts (.fieldLink RX4 27 "BondDesk" "today" "I") (by decide +kernel)) (fun _ h9 => h9) rfl (by decide +kernel) rfl rfl (Nat.le_of_ble_eq_true rfl) dX4_pass_78 (fun H locs hP hD hS => ?_)
              have hP : va_P D vwCl ([eK qk qh qb ql (va_up w8 5 v19) w9, eG cI qh hol, eF cO qb nb ab, eL ql w10] ++ bl nb (fam cI ab as_ ad w11 bS bT bn bds)) H := hP
              have hD : va_D A ([eK qk qh qb ql (va_up w8 5 v19) w9, eG cI qh hol, eF cO qb nb ab, eL ql w10] ++ bl nb (fam cI ab as_ ad w11 bS bT bn bds)) := hD
              refine lv_aload_n hx hb dX4_pass_81 rfl (lv_at hl 0 rfl) ?_
              refine lv_iload_n hx hb dX4_pass_82 rfl (lv_at hl 2 rfl) ?_
              refine lv_iload hx hb dX4_pass_83 (lv_at hl 4 rfl) ?_
              refine lv_iadd hx hb dX4_pass_85 ?_
              obtain ⟨v20, hv20, hf⟩ := ob hf
              refine cSz (W.runV (As := [.int (v3 + x7)]) (rest := []) ⟨hx, hb, hml, hown, hts⟩ (m_X4_isWorkingDay l D cI cJ cO ah qk qh qb ql ab (va_up w8 5 v19) w9 hol w10 nb (v3 + x7) N v20 hv20) (cwV 1 hts gX4_pass_X4_isWorkingDay rfl rfl rfl (by decide +kernel) ⟨(Nat.le_of_ble_eq_true rfl), (Nat.le_of_ble_eq_true rfl)⟩) ⟨pw_blind, va_recv hK hP (ci := 3) (q0 := 0) rfl rfl, fun U hU hW => ⟨rfl, pw_at hZ hS hP hK hU hW (Or.inr rfl) [0, 1, 2, 3] rfl⟩⟩ rfl rfl hl.1 rfl (lv_room (Nat.le_of_ble_eq_true rfl)) dX4_pass_86 ⟨(Nat.le_of_ble_eq_true rfl), (Nat.le_of_ble_eq_true rfl)⟩) (fun zv20 => ?_)
              refine lv_if_eq (tgt := 96) hx hb dX4_pass_89 (by decide) (fun c21 => ?_) (fun c21 => ?_)
              · have hf := it hf c21
                obtain ⟨x22, ex22⟩ : ∃ y : Int32, y = x7 + 1 := ⟨_, rfl⟩
                have hf := bd_s hf ex22
                refine lv_iinc (v := x22) (lv' := [(5, .int x22), (0, .ref qk), (1, .int a0), (2, .int v3), (3, .long v6)]) hx hb dX4_pass_96 hl (k := 4) rfl (by rw [ex22]; rfl) (by decide) rfl (fun ls hl => ?_)
                refine lv_goto (tgt := 64) hx hb dX4_pass_99 (by decide) ?_
                exact ih17 x22 (va_up w8 5 v19) w9 w10 w11 _ _ hP hD hS ls (lv_sub hl [1, 2, 3, 4, 0] rfl) hf
              · have hf := ie hf c21
                refine lv_aload_n hx hb dX4_pass_92 rfl (lv_at hl 0 rfl) ?_
                obtain ⟨v23, hv23, hf⟩ := ob hf
                have hFc := va_A_of hD hS hA
                refine va_callv (va_runV (As := []) (rest := []) ⟨hx, hb, hml, hown, hts⟩ (m_X4_lookAtBonds l D cI cJ cO ah qk qh qb ql ab as_ ad (va_up w8 5 v19) w9 hol w10 nb w11 bS bT bn bds H.size N v23 hv23) (cwV 0 hts gX4_pass_X4_lookAtBonds rfl rfl rfl (by decide +kernel) ⟨(Nat.le_of_ble_eq_true rfl), (Nat.le_of_ble_eq_true rfl)⟩) ⟨mp_blind, va_recv hK hP (ci := 3) (q0 := 0) rfl rfl, fun U hU hW => ⟨rfl, mp_at hZ hS hP hK hD hFc hU hW (Or.inr rfl)⟩⟩ rfl rfl hl.1 rfl (lv_room (Nat.le_of_ble_eq_true rfl)) dX4_pass_93 ⟨(Nat.le_of_ble_eq_true rfl), (Nat.le_of_ble_eq_true rfl)⟩) hS (fun q _ h => hFc q h) hFc (fun u t H1 locs ht9 hvm hw hBx hz1 hk1 hS => ?_)
                obtain ⟨hP, hD9⟩ := hBx
                rw [ht9] at hP
                have hD := hD9.weaken (fun _ q _ h => hFc q.1 h)
                generalize H1 = H at hP hS ⊢
                obtain ⟨x24, ex24⟩ : ∃ y : Int32, y = x7 + 1 := ⟨_, rfl⟩
                have hf := bd_s hf ex24
                refine lv_iinc (v := x24) (lv' := [(5, .int x24), (0, .ref qk), (1, .int a0), (2, .int v3), (3, .long v6)]) hx hb dX4_pass_96 hl (k := 4) rfl (by rw [ex24]; rfl) (by decide) rfl (fun ls hl => ?_)
                refine lv_goto (tgt := 64) hx hb dX4_pass_99 (by decide) ?_
                exact ih17 x24 (va_up w8 5 v19) w9 v23.1 v23.2 _ _ hP hD hS ls (lv_sub hl [1, 2, 3, 4, 0] rfl) hf
        exact LP64 N 1 K kc LG bB _ _ hP hD hS ls (lv_sub hl [3, 4, 2, 1, 0] rfl) hf
      · have hf := ie hf c5
        obtain ⟨sa, hsa⟩ := hT.2.2.1 (259, "the date would be later than 20661101") (by decide +kernel)
        exact vx_throwSW (names := ["java/lang/RuntimeException", "java/lang/Exception"]) (A := A) hx hb hl0 hown (by decide) (by decide) (hts (.classLink RX4 73 "java/lang/IllegalStateException") (by decide +kernel)) (hts (.initialized "java/lang/IllegalStateException") (by decide +kernel)) hsa (vx_hat (fun w hw => hts w (atX4_pass_77 w hw)) thr_ng77 (fun w hw => va_any (thr_ot w hw) (hT.2.2.2 w hw))) (by decide +kernel) hT.1 hT.2.1 va_S.rf (hl.1.trans hml.symm) dX4_pass_42 dX4_pass_45 dX4_pass_46 dX4_pass_49 dX4_pass_52 (fun x h => (hte x h).elim) (Nat.le_of_ble_eq_true rfl) (Nat.le_of_ble_eq_true rfl) (Nat.le_of_ble_eq_true rfl) (Nat.le_of_ble_eq_true rfl) hlocks (fun t _ h1 h2 => ⟨(Option.some.inj hf).symm, h1, fun q h3 _ => h2 q h3⟩) (fun z hz => absurd hz List.not_mem_nil) (Nat.le_of_ble_eq_true rfl) (Nat.le_of_ble_eq_true rfl)
    · have hf := ie hf c2
      obtain ⟨sa, hsa⟩ := hT.2.2.1 (257, "days is not 1 to 400") (by decide +kernel)
      exact vx_throwSW (names := ["java/lang/RuntimeException", "java/lang/Exception"]) (A := A) hx hb hl0 hown (by decide) (by decide) (hts (.classLink RX4 44 "java/lang/IllegalArgumentException") (by decide +kernel)) (hts (.initialized "java/lang/IllegalArgumentException") (by decide +kernel)) hsa (vx_hat (fun w hw => hts w (atX4_pass_48 w hw)) thr_ng48 (fun w hw => va_any (thr_ot w hw) (hT.2.2.2 w hw))) (by decide +kernel) hT.1 hT.2.1 va_S.rf (hl.1.trans hml.symm) dX4_pass_12 dX4_pass_15 dX4_pass_16 dX4_pass_19 dX4_pass_22 (fun x h => (hte x h).elim) (Nat.le_of_ble_eq_true rfl) (Nat.le_of_ble_eq_true rfl) (Nat.le_of_ble_eq_true rfl) (Nat.le_of_ble_eq_true rfl) hlocks (fun t _ h1 h2 => ⟨(Option.some.inj hf).symm, h1, fun q h3 _ => h2 q h3⟩) (fun z hz => absurd hz List.not_mem_nil) (Nat.le_of_ble_eq_true rfl) (Nat.le_of_ble_eq_true rfl)
