/-! pure: ladder agrees, whole -/
theorem ok_ladder {g : SG} {μ : SM} (hI : Inv g μ) {N : Nat} (hN : 10000 ≤ N) (a0 a1 : Int32) : OkM Inv ["java/lang/IllegalArgumentException"] Int32.toInt64 Int32.toInt64 g (k_ladder N g a0 a1) (q_ladder N μ a0 a1) := by
  obtain ⟨td, nh, hd, rt, X, Y, h9⟩ := id hI
  have hkc := h9.2.2.2.2.1.1
  obtain ⟨x, x1, x2, rfl⟩ := rng a0
  obtain ⟨y, y1, y2, rfl⟩ := rng a1
  by_cases c : (2016 ≤ x ∧ x ≤ 2066) ∧ x ≤ y ∧ y ≤ 2066
  · obtain ⟨r, a, b⟩ := lad_Y h9 (N0 := N) (by omega) c.2.2 (K8 := fun (x9 : Int64) => (if 0 < (lg_cmp x9 0) then gd (¬ x9 = 0) (bd (if 1000000 < (g.2.1 / x9) then 1000000 else (g.2.1 / x9) : Int64) fun x18 : Int64 => some (.inl x18.toInt32)) else some (.inl 0))) (K5 := fun (x9 : Int64) => (if (lg_cmp x9 0) = 0 then some (0, va_up μ.1 0 (0 : Int32)) else gd (¬ x9 = 0) (bd (if (μ.2.1 / x9) < 1000000 then (μ.2.1 / x9) else 1000000 : Int64) fun x43 : Int64 => some (x43.toInt32, va_up μ.1 0 (0 : Int32))))) (fun s s0 s1 => by
      rw [← hkc]
      by_cases cs : s = 0
      · refine ⟨0, ?_, ?_⟩ <;> simp (disch := omega) only [true_or, or_true, gd_T, bd_e, jn_e, bi_e, gd_t, it_e, ie_e, if_true, if_false, ii_lit, ii_add, ii_sub, ii_mul, ii_neg, ii_lt, ii_le, ii_eq, ii_nat, ii_div, ii_nI, ll_lit, ll_add, ll_sub, ll_mul, ll_neg, ll_div, ii_toL, ll_toI, lz_gt, lz_lt, lz_le, lz_ge, lz_eq, ll_lt, ll_le, ll_eq]
      · obtain ⟨v, hv⟩ : ∃ v, v = g.2.1 / LL s := ⟨_, rfl⟩
        by_cases cv : LL 1000000 < v
        · have cv2 : ¬ v < LL 1000000 := fun hh => by
            have p := Int64.lt_iff_toInt_lt.mp cv
            have q := Int64.lt_iff_toInt_lt.mp hh
            omega
          refine ⟨1000000, ?_, ?_⟩
          · simp (disch := omega) only [true_or, or_true, gd_T, bd_e, jn_e, bi_e, gd_t, it_e, ie_e, if_true, if_false, ii_lit, ii_add, ii_sub, ii_mul, ii_neg, ii_lt, ii_le, ii_eq, ii_nat, ii_div, ii_nI, ll_lit, ll_add, ll_sub, ll_mul, ll_neg, ll_div, ii_toL, ll_toI, lz_gt, lz_lt, lz_le, lz_ge, lz_eq, ll_lt, ll_le, ll_eq, ← hv, cv]
          · simp (disch := omega) only [true_or, or_true, gd_T, bd_e, jn_e, bi_e, gd_t, it_e, ie_e, if_true, if_false, ii_lit, ii_add, ii_sub, ii_mul, ii_neg, ii_lt, ii_le, ii_eq, ii_nat, ii_div, ii_nI, ll_lit, ll_add, ll_sub, ll_mul, ll_neg, ll_div, ii_toL, ll_toI, lz_gt, lz_lt, lz_le, lz_ge, lz_eq, ll_lt, ll_le, ll_eq, ← hv, cv2]
        · have e9 : (if v < LL 1000000 then v else LL 1000000) = v := by
            by_cases c3 : v < LL 1000000
            · rw [if_pos c3]
            · rw [if_neg c3]
              apply Int64.toInt_inj.mp
              have p : ¬ (LL 1000000).toInt < v.toInt := fun hh => cv (Int64.lt_iff_toInt_lt.mpr hh)
              have q : ¬ v.toInt < (LL 1000000).toInt := fun hh => c3 (Int64.lt_iff_toInt_lt.mpr hh)
              omega
          refine ⟨v.toInt32.toInt, ?_, ?_⟩
          · have e8 : II v.toInt32.toInt = v.toInt32 := Int32.ofInt_toInt _
            rw [e8]
            simp (disch := omega) only [true_or, or_true, gd_T, bd_e, jn_e, bi_e, gd_t, it_e, ie_e, if_true, if_false, ii_lit, ii_add, ii_sub, ii_mul, ii_neg, ii_lt, ii_le, ii_eq, ii_nat, ii_div, ii_nI, ll_lit, ll_add, ll_sub, ll_mul, ll_neg, ll_div, ii_toL, ll_toI, lz_gt, lz_lt, lz_le, lz_ge, lz_eq, ll_lt, ll_le, ll_eq, ← hv, cv]
          · have e8 : II v.toInt32.toInt = v.toInt32 := Int32.ofInt_toInt _
            rw [e8]
            simp (disch := omega) only [true_or, or_true, gd_T, bd_e, jn_e, bi_e, gd_t, it_e, ie_e, if_true, if_false, ii_lit, ii_add, ii_sub, ii_mul, ii_neg, ii_lt, ii_le, ii_eq, ii_nat, ii_div, ii_nI, ll_lit, ll_add, ll_sub, ll_mul, ll_neg, ll_div, ii_toL, ll_toI, lz_gt, lz_lt, lz_le, lz_ge, lz_eq, ll_lt, ll_le, ll_eq, ← hv, e9]) (y + 1 - x).toNat x 0 (by omega) (by omega) (by omega) (by omega) N N (by omega) (by omega)
    refine ok_v (v := II r) (b := II r) (M' := va_up μ.1 0 (II 0)) hI ?_ ?_ (va_up_self _ _ _) (up1 _ _) rfl
    · have ry : ∀ z : Int, 2016 ≤ z → z ≤ 2066 → f_X4_requireYear (II z) = some (.inl ()) := fun z z1 z2 => by
        unfold f_X4_requireYear
        simp (disch := omega) only [true_or, or_true, gd_T, bd_e, jn_e, bi_e, gd_t, it_e, ie_e, if_true, if_false, ii_lit, ii_add, ii_sub, ii_mul, ii_neg, ii_lt, ii_le, ii_eq, ii_nat, ii_div, ii_nI]
      unfold f_X4_ladder
      rw [ry x c.1.1 c.1.2, ex_i, ry y (by omega) c.2.2, ex_i, if_pos (by rw [ii_le x1 x2 y1 y2]; exact c.2.1)]
      exact a
    · unfold q_ladder f_X5_ladder
      rw [show f_X5_isIn (II x) 2016 2066 = some (II 1) from by have := isin x 2016 2066 x1 x2 (by omega) (by omega) (by omega) (by omega); rw [if_pos c.1] at this; exact this, bi_e, if_neg (by decide), show f_X5_isIn (II y) (II x) 2066 = some (II 1) from by have := isin y x 2066 y1 y2 x1 x2 (by omega) (by omega); rw [if_pos c.2] at this; exact this, bi_e, if_neg (by decide)]
      exact congrArg _ b
  · refine ok_x (E := "java/lang/IllegalArgumentException") (b := II 0) (M' := va_up (va_up μ.1 0 (II 0)) 0 (II 1)) hI ?_ (by decide) ?_ ((va_up_self _ _ _).trans (by decide)) (up2 _ _ _)
    · unfold f_X4_ladder f_X4_requireYear
      by_cases c1 : x < 2016
      · simp (disch := omega) only [true_or, or_true, gd_T, bd_e, jn_e, bi_e, gd_t, it_e, ie_e, if_true, if_false, ii_lit, ii_add, ii_sub, ii_mul, ii_neg, ii_lt, ii_le, ii_eq, ii_nat, ii_div, ii_nI, ex_i, ex_e]
      · by_cases c2 : x ≤ 2066
        · by_cases c3 : y < 2016
          · simp (disch := omega) only [true_or, or_true, gd_T, bd_e, jn_e, bi_e, gd_t, it_e, ie_e, if_true, if_false, ii_lit, ii_add, ii_sub, ii_mul, ii_neg, ii_lt, ii_le, ii_eq, ii_nat, ii_div, ii_nI, ex_i, ex_e]
          · by_cases c4 : y ≤ 2066
            · simp (disch := omega) only [true_or, or_true, gd_T, bd_e, jn_e, bi_e, gd_t, it_e, ie_e, if_true, if_false, ii_lit, ii_add, ii_sub, ii_mul, ii_neg, ii_lt, ii_le, ii_eq, ii_nat, ii_div, ii_nI, ex_i, ex_e]
            · simp (disch := omega) only [true_or, or_true, gd_T, bd_e, jn_e, bi_e, gd_t, it_e, ie_e, if_true, if_false, ii_lit, ii_add, ii_sub, ii_mul, ii_neg, ii_lt, ii_le, ii_eq, ii_nat, ii_div, ii_nI, ex_i, ex_e]
        · simp (disch := omega) only [true_or, or_true, gd_T, bd_e, jn_e, bi_e, gd_t, it_e, ie_e, if_true, if_false, ii_lit, ii_add, ii_sub, ii_mul, ii_neg, ii_lt, ii_le, ii_eq, ii_nat, ii_div, ii_nI, ex_i, ex_e]
    · unfold q_ladder f_X5_ladder f_X5_no
      by_cases c1 : 2016 ≤ x ∧ x ≤ 2066
      · simp (disch := omega) only [true_or, or_true, gd_T, bd_e, jn_e, bi_e, gd_t, it_e, ie_e, if_true, if_false, ii_lit, ii_add, ii_sub, ii_mul, ii_neg, ii_lt, ii_le, ii_eq, ii_nat, ii_div, ii_nI, isin, mp_e]
      · simp (disch := omega) only [true_or, or_true, gd_T, bd_e, jn_e, bi_e, gd_t, it_e, ie_e, if_true, if_false, ii_lit, ii_add, ii_sub, ii_mul, ii_neg, ii_lt, ii_le, ii_eq, ii_nat, ii_div, ii_nI, isin, mp_e]
