/-! pure: setCall -/
theorem ok_setCall {g : SG} {μ : SM} (hI : Inv g μ) {N : Nat} (hN : 10000 ≤ N) (a0 a1 a2 : Int32) : OkM Inv ["java/lang/IndexOutOfBoundsException", "java/lang/IllegalArgumentException", "java/lang/IllegalStateException"] Int32.toInt64 Int32.toInt64 g (k_setCall N g a0 a1 a2) (q_setCall N μ a0 a1 a2) := by
  obtain ⟨td, nh, hd, rt, X, Y, h9⟩ := id hI
  obtain ⟨⟨t0, t1, r0, r1, hnb⟩, ⟨k3, k4, k5, k7⟩, ⟨hc, hm⟩, ⟨m1, m3, m4⟩, ⟨hkc, hLG⟩, hB⟩ := id h9
  have m1z : (va_up μ.1 0 (II 0)) 1 = II td := (va_up_ne _ _ (by decide)).trans m1
  rcases bni hnb ((va_up_ne _ _ (by decide)).trans m4 : (va_up μ.1 0 (II 0)) 4 = II g.2.2.2.2.1) a0 with ⟨i, hi, rfl, f1, f5⟩ | ⟨f1, f5⟩
  · obtain ⟨hW, hC, hM⟩ := hB i hi
    have hi10 := hM.1
    have h5 := hW.2.1
    have eg := gone_c hC hW
    obtain ⟨p, p1, p2, rfl⟩ := rng a2
    rcases rdt a1 with ⟨fr, n1, n2, rfl, e1, e5⟩ | ⟨e1, e5⟩
    · by_cases cp : p = 0
      · by_cases c8 : X i 8 = 0
        · obtain ⟨X', hX'⟩ : ∃ X', X' = va_up (va_up (X i) 12 fr) 13 p := ⟨_, rfl⟩
          have hMD := md_up (md_up hM (k0 := 12) (by decide) (by decide) fr) (k0 := 13) (by decide) (by decide) p
          rw [← hX'] at hMD
          have hk : ∀ k, k ≠ 12 → k ≠ 13 → X' k = X i k := fun k a b => by rw [hX', va_up_ne _ _ b, va_up_ne _ _ a]
          have hkf : X' 12 = fr := by rw [hX']; simp [va_up]
          have hkp : X' 13 = p := by rw [hX']; simp [va_up]
          have hWB : WB X' (Y i) := by
            unfold WB at hW ⊢
            simp only [hk 0 (by decide) (by decide), hk 1 (by decide) (by decide), hk 2 (by decide) (by decide), hk 3 (by decide) (by decide), hk 4 (by decide) (by decide), hk 5 (by decide) (by decide), hk 6 (by decide) (by decide), hk 7 (by decide) (by decide), hk 8 (by decide) (by decide), hk 9 (by decide) (by decide), hk 10 (by decide) (by decide), hk 11 (by decide) (by decide), hkf, hkp]
            refine ⟨hW.1, hW.2.1, ?_, hW.2.2.2⟩
            have := hW.2.2.1
            omega
          obtain ⟨⟨hn, b1, b2, b3, b4, b6, b8, b5, b7⟩, -⟩ := id hC
          have hCB : CB X' (Y i) (va_up (va_up (g.2.2.2.2.2.1 i) 7 (II (DD fr))) 8 (II p)) (g.2.2.2.2.2.2.1 i) (g.2.2.2.2.2.2.2.1 i) (g.2.2.2.2.2.2.2.2.1 i) (g.2.2.2.2.2.2.2.2.2 i) := by
            refine cb_S hC (fun k hk9 => hk k (by omega) (by omega)) ?_
            simp only [hk 5 (by decide) (by decide), hk 6 (by decide) (by decide), hk 7 (by decide) (by decide), hk 8 (by decide) (by decide), hk 9 (by decide) (by decide), hk 10 (by decide) (by decide), hk 11 (by decide) (by decide), hkf, hkp]
            refine ⟨hn, ?_, ?_, ?_, ?_, ?_, ?_, ?_, ?_⟩ <;> simp [va_up, b1, b2, b3, b4, b6, b8] <;> assumption
          have w9 := hWB.2.1
          have hcl := fca_c hCB hWB (N := N) (by omega)
          have hml := fca_m hMD hWB (N := N) (by omega)
          have c89 : X' 8 = 0 := (hk 8 (by decide) (by decide)).trans c8
          rw [if_pos c89] at hml
          have hn6 := hCB.1.1
          have i10 : (14 * (i : Int) + 12).toNat = 14 * i + 12 := by omega
          have i11 : (14 * (i : Int) + 13).toNat = 14 * i + 13 := by omega
          have f_q : f_X4_requireThere (g.2.2.2.2.2.1 i) = some (.inl ()) := by
            unfold f_X4_requireThere
            simp (disch := omega) only [true_or, or_true, gd_T, bd_e, jn_e, bi_e, gd_t, it_e, ie_e, if_true, if_false, ii_lit, ii_add, ii_sub, ii_mul, ii_neg, ii_lt, ii_le, ii_eq, ii_nat, ii_div, ii_nI, eg]
          refine ok_v2 (u := (II (FCk X' (Y i) ((X' 6).toNat - (X' 7).toNat) (X' 7).toNat), va_up (va_up (g.2.2.2.2.2.1 i) 7 (II (DD fr))) 8 (II p))) (b := II (FCk X' (Y i) ((X' 6).toNat - (X' 7).toNat) (X' 7).toNat)) (μ' := (va_up μ.1 0 (II 0), μ.2.1, μ.2.2.1, upd (upd μ.2.2.2.1 (14 * i + 12) (II fr)) (14 * i + 13) (II p), μ.2.2.2.2.1, μ.2.2.2.2.2)) ?_ ?_ (va_up_self μ.1 0 (II 0)) rfl ?_
          · unfold f_X4_setCall
            rw [f1]
            simp (disch := omega) only [true_or, or_true, gd_T, bd_e, jn_e, bi_e, gd_t, it_e, ie_e, if_true, if_false, ii_lit, ii_add, ii_sub, ii_mul, ii_neg, ii_lt, ii_le, ii_eq, ii_nat, ii_div, ii_nI, ll_lit, ll_add, ll_sub, ll_mul, ll_neg, ll_div, ii_toL, ll_toI, lz_gt, lz_lt, lz_le, lz_ge, lz_eq, ll_lt, ll_le, ll_eq, ex_i, e1, f_q, eg, Int.toNat_natCast, hn6, hcl]
          · unfold q_setCall f_X5_setCall
            simp (disch := omega) only [true_or, or_true, gd_T, bd_e, jn_e, bi_e, gd_t, it_e, ie_e, if_true, if_false, ii_lit, ii_add, ii_sub, ii_mul, ii_neg, ii_lt, ii_le, ii_eq, ii_nat, ii_div, ii_nI, ll_lit, ll_add, ll_sub, ll_mul, ll_neg, ll_div, ii_toL, ll_toI, lz_gt, lz_lt, lz_le, lz_ge, lz_eq, ll_lt, ll_le, ll_eq, f5, isin, e5, thr_m hM hW, num_x5 n1 n2 (show 100 ≤ N by omega), i10, i11, hml, mp_e]
          · have ei : (II (i : Int)).toNatClampNeg = i := by rw [ii_nat (by omega) (by omega)]; omega
            rw [ei, hkc]
            exact inv_B h9 (up1 _ _) hWB hCB hMD (fun j hj X Y hd => md_ne (md_ne hd hj (by decide) _) hj (by decide) _)
        · refine ok_x2 (E := "java/lang/IllegalStateException") (b := II 0) (M' := va_up (va_up μ.1 0 (II 0)) 0 (II 3)) hI ?_ (by decide) ?_ ((va_up_self _ _ _).trans (by decide)) (up2 _ _ _)
          · unfold f_X4_setCall f_X4_requireThere
            rw [f1]
            simp (disch := omega) only [true_or, or_true, gd_T, bd_e, jn_e, bi_e, gd_t, it_e, ie_e, if_true, if_false, ii_lit, ii_add, ii_sub, ii_mul, ii_neg, ii_lt, ii_le, ii_eq, ii_nat, ii_div, ii_nI, ll_lit, ll_add, ll_sub, ll_mul, ll_neg, ll_div, ii_toL, ll_toI, lz_gt, lz_lt, lz_le, lz_ge, lz_eq, ll_lt, ll_le, ll_eq, ex_i, ex_e, e1, Int.toNat_natCast, eg]
          · unfold q_setCall f_X5_setCall f_X5_no
            simp (disch := omega) only [true_or, or_true, gd_T, bd_e, jn_e, bi_e, gd_t, it_e, ie_e, if_true, if_false, ii_lit, ii_add, ii_sub, ii_mul, ii_neg, ii_lt, ii_le, ii_eq, ii_nat, ii_div, ii_nI, ll_lit, ll_add, ll_sub, ll_mul, ll_neg, ll_div, ii_toL, ll_toI, lz_gt, lz_lt, lz_le, lz_ge, lz_eq, ll_lt, ll_le, ll_eq, f5, isin, e5, thr_m hM hW, mp_e]
      · by_cases cp1 : 8000 ≤ p ∧ p ≤ 15000
        · by_cases c8 : X i 8 = 0
          · obtain ⟨X', hX'⟩ : ∃ X', X' = va_up (va_up (X i) 12 fr) 13 p := ⟨_, rfl⟩
            have hMD := md_up (md_up hM (k0 := 12) (by decide) (by decide) fr) (k0 := 13) (by decide) (by decide) p
            rw [← hX'] at hMD
            have hk : ∀ k, k ≠ 12 → k ≠ 13 → X' k = X i k := fun k a b => by rw [hX', va_up_ne _ _ b, va_up_ne _ _ a]
            have hkf : X' 12 = fr := by rw [hX']; simp [va_up]
            have hkp : X' 13 = p := by rw [hX']; simp [va_up]
            have hWB : WB X' (Y i) := by
              unfold WB at hW ⊢
              simp only [hk 0 (by decide) (by decide), hk 1 (by decide) (by decide), hk 2 (by decide) (by decide), hk 3 (by decide) (by decide), hk 4 (by decide) (by decide), hk 5 (by decide) (by decide), hk 6 (by decide) (by decide), hk 7 (by decide) (by decide), hk 8 (by decide) (by decide), hk 9 (by decide) (by decide), hk 10 (by decide) (by decide), hk 11 (by decide) (by decide), hkf, hkp]
              refine ⟨hW.1, hW.2.1, ?_, hW.2.2.2⟩
              have := hW.2.2.1
              omega
            obtain ⟨⟨hn, b1, b2, b3, b4, b6, b8, b5, b7⟩, -⟩ := id hC
            have hCB : CB X' (Y i) (va_up (va_up (g.2.2.2.2.2.1 i) 7 (II (DD fr))) 8 (II p)) (g.2.2.2.2.2.2.1 i) (g.2.2.2.2.2.2.2.1 i) (g.2.2.2.2.2.2.2.2.1 i) (g.2.2.2.2.2.2.2.2.2 i) := by
              refine cb_S hC (fun k hk9 => hk k (by omega) (by omega)) ?_
              simp only [hk 5 (by decide) (by decide), hk 6 (by decide) (by decide), hk 7 (by decide) (by decide), hk 8 (by decide) (by decide), hk 9 (by decide) (by decide), hk 10 (by decide) (by decide), hk 11 (by decide) (by decide), hkf, hkp]
              refine ⟨hn, ?_, ?_, ?_, ?_, ?_, ?_, ?_, ?_⟩ <;> simp [va_up, b1, b2, b3, b4, b6, b8] <;> assumption
            have w9 := hWB.2.1
            have hcl := fca_c hCB hWB (N := N) (by omega)
            have hml := fca_m hMD hWB (N := N) (by omega)
            have c89 : X' 8 = 0 := (hk 8 (by decide) (by decide)).trans c8
            rw [if_pos c89] at hml
            have hn6 := hCB.1.1
            have i10 : (14 * (i : Int) + 12).toNat = 14 * i + 12 := by omega
            have i11 : (14 * (i : Int) + 13).toNat = 14 * i + 13 := by omega
            have f_q : f_X4_requireThere (g.2.2.2.2.2.1 i) = some (.inl ()) := by
              unfold f_X4_requireThere
              simp (disch := omega) only [true_or, or_true, gd_T, bd_e, jn_e, bi_e, gd_t, it_e, ie_e, if_true, if_false, ii_lit, ii_add, ii_sub, ii_mul, ii_neg, ii_lt, ii_le, ii_eq, ii_nat, ii_div, ii_nI, eg]
            refine ok_v2 (u := (II (FCk X' (Y i) ((X' 6).toNat - (X' 7).toNat) (X' 7).toNat), va_up (va_up (g.2.2.2.2.2.1 i) 7 (II (DD fr))) 8 (II p))) (b := II (FCk X' (Y i) ((X' 6).toNat - (X' 7).toNat) (X' 7).toNat)) (μ' := (va_up μ.1 0 (II 0), μ.2.1, μ.2.2.1, upd (upd μ.2.2.2.1 (14 * i + 12) (II fr)) (14 * i + 13) (II p), μ.2.2.2.2.1, μ.2.2.2.2.2)) ?_ ?_ (va_up_self μ.1 0 (II 0)) rfl ?_
            · unfold f_X4_setCall
              rw [f1]
              simp (disch := omega) only [true_or, or_true, gd_T, bd_e, jn_e, bi_e, gd_t, it_e, ie_e, if_true, if_false, ii_lit, ii_add, ii_sub, ii_mul, ii_neg, ii_lt, ii_le, ii_eq, ii_nat, ii_div, ii_nI, ll_lit, ll_add, ll_sub, ll_mul, ll_neg, ll_div, ii_toL, ll_toI, lz_gt, lz_lt, lz_le, lz_ge, lz_eq, ll_lt, ll_le, ll_eq, ex_i, e1, f_q, eg, Int.toNat_natCast, hn6, hcl]
            · unfold q_setCall f_X5_setCall
              simp (disch := omega) only [true_or, or_true, gd_T, bd_e, jn_e, bi_e, gd_t, it_e, ie_e, if_true, if_false, ii_lit, ii_add, ii_sub, ii_mul, ii_neg, ii_lt, ii_le, ii_eq, ii_nat, ii_div, ii_nI, ll_lit, ll_add, ll_sub, ll_mul, ll_neg, ll_div, ii_toL, ll_toI, lz_gt, lz_lt, lz_le, lz_ge, lz_eq, ll_lt, ll_le, ll_eq, f5, isin, e5, thr_m hM hW, num_x5 n1 n2 (show 100 ≤ N by omega), i10, i11, hml, mp_e]
            · have ei : (II (i : Int)).toNatClampNeg = i := by rw [ii_nat (by omega) (by omega)]; omega
              rw [ei, hkc]
              exact inv_B h9 (up1 _ _) hWB hCB hMD (fun j hj X Y hd => md_ne (md_ne hd hj (by decide) _) hj (by decide) _)
          · refine ok_x2 (E := "java/lang/IllegalStateException") (b := II 0) (M' := va_up (va_up μ.1 0 (II 0)) 0 (II 3)) hI ?_ (by decide) ?_ ((va_up_self _ _ _).trans (by decide)) (up2 _ _ _)
            · unfold f_X4_setCall f_X4_requireThere
              rw [f1]
              simp (disch := omega) only [true_or, or_true, gd_T, bd_e, jn_e, bi_e, gd_t, it_e, ie_e, if_true, if_false, ii_lit, ii_add, ii_sub, ii_mul, ii_neg, ii_lt, ii_le, ii_eq, ii_nat, ii_div, ii_nI, ll_lit, ll_add, ll_sub, ll_mul, ll_neg, ll_div, ii_toL, ll_toI, lz_gt, lz_lt, lz_le, lz_ge, lz_eq, ll_lt, ll_le, ll_eq, ex_i, ex_e, e1, Int.toNat_natCast, eg]
            · unfold q_setCall f_X5_setCall f_X5_no
              simp (disch := omega) only [true_or, or_true, gd_T, bd_e, jn_e, bi_e, gd_t, it_e, ie_e, if_true, if_false, ii_lit, ii_add, ii_sub, ii_mul, ii_neg, ii_lt, ii_le, ii_eq, ii_nat, ii_div, ii_nI, ll_lit, ll_add, ll_sub, ll_mul, ll_neg, ll_div, ii_toL, ll_toI, lz_gt, lz_lt, lz_le, lz_ge, lz_eq, ll_lt, ll_le, ll_eq, f5, isin, e5, thr_m hM hW, mp_e]
        · by_cases cp2 : p < 8000
          · refine ok_x2 (E := "java/lang/IllegalArgumentException") (b := II 0) (M' := va_up (va_up μ.1 0 (II 0)) 0 (II 2)) hI ?_ (by decide) ?_ ((va_up_self _ _ _).trans (by decide)) (up2 _ _ _)
            · unfold f_X4_setCall
              rw [f1]
              simp (disch := omega) only [true_or, or_true, gd_T, bd_e, jn_e, bi_e, gd_t, it_e, ie_e, if_true, if_false, ii_lit, ii_add, ii_sub, ii_mul, ii_neg, ii_lt, ii_le, ii_eq, ii_nat, ii_div, ii_nI, ll_lit, ll_add, ll_sub, ll_mul, ll_neg, ll_div, ii_toL, ll_toI, lz_gt, lz_lt, lz_le, lz_ge, lz_eq, ll_lt, ll_le, ll_eq, ex_i, ex_e, e1]
            · unfold q_setCall f_X5_setCall f_X5_no
              simp (disch := omega) only [true_or, or_true, gd_T, bd_e, jn_e, bi_e, gd_t, it_e, ie_e, if_true, if_false, ii_lit, ii_add, ii_sub, ii_mul, ii_neg, ii_lt, ii_le, ii_eq, ii_nat, ii_div, ii_nI, ll_lit, ll_add, ll_sub, ll_mul, ll_neg, ll_div, ii_toL, ll_toI, lz_gt, lz_lt, lz_le, lz_ge, lz_eq, ll_lt, ll_le, ll_eq, f5, isin, e5, mp_e]
          · refine ok_x2 (E := "java/lang/IllegalArgumentException") (b := II 0) (M' := va_up (va_up μ.1 0 (II 0)) 0 (II 2)) hI ?_ (by decide) ?_ ((va_up_self _ _ _).trans (by decide)) (up2 _ _ _)
            · unfold f_X4_setCall
              rw [f1]
              simp (disch := omega) only [true_or, or_true, gd_T, bd_e, jn_e, bi_e, gd_t, it_e, ie_e, if_true, if_false, ii_lit, ii_add, ii_sub, ii_mul, ii_neg, ii_lt, ii_le, ii_eq, ii_nat, ii_div, ii_nI, ll_lit, ll_add, ll_sub, ll_mul, ll_neg, ll_div, ii_toL, ll_toI, lz_gt, lz_lt, lz_le, lz_ge, lz_eq, ll_lt, ll_le, ll_eq, ex_i, ex_e, e1]
            · unfold q_setCall f_X5_setCall f_X5_no
              simp (disch := omega) only [true_or, or_true, gd_T, bd_e, jn_e, bi_e, gd_t, it_e, ie_e, if_true, if_false, ii_lit, ii_add, ii_sub, ii_mul, ii_neg, ii_lt, ii_le, ii_eq, ii_nat, ii_div, ii_nI, ll_lit, ll_add, ll_sub, ll_mul, ll_neg, ll_div, ii_toL, ll_toI, lz_gt, lz_lt, lz_le, lz_ge, lz_eq, ll_lt, ll_le, ll_eq, f5, isin, e5, mp_e]
    · refine ok_x2 (E := "java/lang/IllegalArgumentException") (b := II 0) (M' := va_up (va_up μ.1 0 (II 0)) 0 (II 2)) hI ?_ (by decide) ?_ ((va_up_self _ _ _).trans (by decide)) (up2 _ _ _)
      · unfold f_X4_setCall
        rw [f1]
        simp (disch := omega) only [true_or, or_true, gd_T, bd_e, jn_e, bi_e, gd_t, it_e, ie_e, if_true, if_false, ii_lit, ii_add, ii_sub, ii_mul, ii_neg, ii_lt, ii_le, ii_eq, ii_nat, ii_div, ii_nI, ll_lit, ll_add, ll_sub, ll_mul, ll_neg, ll_div, ii_toL, ll_toI, lz_gt, lz_lt, lz_le, lz_ge, lz_eq, ll_lt, ll_le, ll_eq, ex_i, ex_e, e1]
      · unfold q_setCall f_X5_setCall f_X5_no
        simp (disch := omega) only [true_or, or_true, gd_T, bd_e, jn_e, bi_e, gd_t, it_e, ie_e, if_true, if_false, ii_lit, ii_add, ii_sub, ii_mul, ii_neg, ii_lt, ii_le, ii_eq, ii_nat, ii_div, ii_nI, ll_lit, ll_add, ll_sub, ll_mul, ll_neg, ll_div, ii_toL, ll_toI, lz_gt, lz_lt, lz_le, lz_ge, lz_eq, ll_lt, ll_le, ll_eq, f5, e5, mp_e]
  · refine ok_x2 (E := "java/lang/IndexOutOfBoundsException") (b := II 0) (M' := va_up (va_up μ.1 0 (II 0)) 0 (II 1)) hI ?_ (by decide) ?_ ((va_up_self _ _ _).trans (by decide)) (up2 _ _ _)
    · unfold f_X4_setCall
      rw [f1]
      simp (disch := omega) only [true_or, or_true, gd_T, bd_e, jn_e, bi_e, gd_t, it_e, ie_e, if_true, if_false, ii_lit, ii_add, ii_sub, ii_mul, ii_neg, ii_lt, ii_le, ii_eq, ii_nat, ii_div, ii_nI, ll_lit, ll_add, ll_sub, ll_mul, ll_neg, ll_div, ii_toL, ll_toI, lz_gt, lz_lt, lz_le, lz_ge, lz_eq, ll_lt, ll_le, ll_eq, ex_i, ex_e]
    · unfold q_setCall f_X5_setCall f_X5_no
      simp (disch := omega) only [true_or, or_true, gd_T, bd_e, jn_e, bi_e, gd_t, it_e, ie_e, if_true, if_false, ii_lit, ii_add, ii_sub, ii_mul, ii_neg, ii_lt, ii_le, ii_eq, ii_nat, ii_div, ii_nI, ll_lit, ll_add, ll_sub, ll_mul, ll_neg, ll_div, ii_toL, ll_toI, lz_gt, lz_lt, lz_le, lz_ge, lz_eq, ll_lt, ll_le, ll_eq, f5, isin, mp_e]
