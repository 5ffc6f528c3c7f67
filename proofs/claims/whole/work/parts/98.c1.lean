/-! pure: count agrees -/
theorem ok_count {g : SG} {μ : SM} (hI : Inv g μ) {N : Nat} (hN : 10000 ≤ N) (a0 : Int32) : OkM Inv ["java/lang/IndexOutOfBoundsException"] (fun v : Int64 => v) (fun v : Int64 => v) g (k_count N g a0) (q_count N μ a0) := by
  obtain ⟨td, nh, hd, rt, X, Y, h9⟩ := id hI
  obtain ⟨⟨t0, t1, r0, r1, hnb⟩, ⟨k3, k4, k5, k7⟩, ⟨hc, hm⟩, ⟨m1, m3, m4⟩, ⟨hkc, hLG⟩, hB⟩ := id h9
  obtain ⟨w, w1, w2, rfl⟩ := rng a0
  by_cases c : 0 ≤ w ∧ w ≤ 11
  · obtain ⟨v, e1, e2⟩ := cnt_eq h9 (M := va_up μ.1 0 (II 0)) ((va_up_ne _ _ (by decide)).trans m4) ((va_up_ne _ _ (by decide)).trans m1) ((va_up_ne _ _ (by decide)).trans m3) ((va_up_ne _ _ (by decide)).trans hm.2.1) hN c.1 c.2
    refine ok_v (v := v) (b := v) (M' := va_up μ.1 0 (II 0)) hI ?_ ?_ (va_up_self _ _ _) (up1 _ _) rfl
    · unfold f_X4_count
      simp (disch := omega) only [true_or, or_true, gd_T, bd_e, jn_e, bi_e, gd_t, it_e, ie_e, if_true, if_false, ii_lit, ii_add, ii_sub, ii_mul, ii_neg, ii_lt, ii_le, ii_eq, ii_nat, ii_div, ii_nI, e1]
    · unfold q_count f_X5_count
      simp (disch := omega) only [true_or, or_true, gd_T, bd_e, jn_e, bi_e, gd_t, it_e, ie_e, if_true, if_false, ii_lit, ii_add, ii_sub, ii_mul, ii_neg, ii_lt, ii_le, ii_eq, ii_nat, ii_div, ii_nI, isin, e2, mp_e]
  · refine ok_x (E := "java/lang/IndexOutOfBoundsException") (b := LL 0) (M' := va_up (va_up μ.1 0 (II 0)) 0 (II 1)) hI ?_ (by decide) ?_ ((va_up_self _ _ _).trans (by decide)) (up2 _ _ _)
    · unfold f_X4_count
      by_cases c2 : w < 0
      · simp (disch := omega) only [true_or, or_true, gd_T, bd_e, jn_e, bi_e, gd_t, it_e, ie_e, if_true, if_false, ii_lit, ii_add, ii_sub, ii_mul, ii_neg, ii_lt, ii_le, ii_eq, ii_nat, ii_div, ii_nI]
      · simp (disch := omega) only [true_or, or_true, gd_T, bd_e, jn_e, bi_e, gd_t, it_e, ie_e, if_true, if_false, ii_lit, ii_add, ii_sub, ii_mul, ii_neg, ii_lt, ii_le, ii_eq, ii_nat, ii_div, ii_nI]
    · unfold q_count f_X5_count f_X5_no
      simp (disch := omega) only [true_or, or_true, gd_T, bd_e, jn_e, bi_e, gd_t, it_e, ie_e, if_true, if_false, ii_lit, ii_add, ii_sub, ii_mul, ii_neg, ii_lt, ii_le, ii_eq, ii_nat, ii_div, ii_nI, ll_lit, ll_add, ll_sub, ll_mul, ll_neg, ll_div, ii_toL, ll_toI, lz_gt, lz_lt, lz_le, lz_ge, lz_eq, ll_lt, ll_le, ll_eq, isin, mp_e]
