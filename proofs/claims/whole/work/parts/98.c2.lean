/-! pure: best agrees -/
section BST
variable {td : Int} {nh : Nat} {hd : Nat → Int} {rt : Int} {X Y : Nat → Nat → Int} {g : SG} {μ : SM}
theorem bst_t {nb N0 : Nat} {bB bS : Nat → Nat → Int32} {bT : Nat → Nat → Int64} {bn : Nat → Nat} {bds : Nat → Nat → Int32} {K : Nat → Int32} {a0 f m : Int32} : ∀ (k j : Nat), j + k = 10 → nb ≤ j → ∀ N : Nat, k + 1 ≤ N → f_X4_best_L11 nb bB bS K N0 bT bn bds a0 N f m (II j) = some (.inl f)
  | 0, j, hj, hn, N, hN => by
    obtain ⟨N, rfl⟩ : ∃ N', N = N' + 1 := ⟨N - 1, by omega⟩
    unfold f_X4_best_L11
    simp (disch := omega) only [true_or, or_true, gd_T, bd_e, jn_e, bi_e, gd_t, it_e, ie_e, if_true, if_false, ii_lit, ii_add, ii_sub, ii_mul, ii_neg, ii_lt, ii_le, ii_eq, ii_nat, ii_div, ii_nI]
  | k + 1, j, hj, hn, N, hN => by
    obtain ⟨N, rfl⟩ : ∃ N', N = N' + 1 := ⟨N - 1, by omega⟩
    have e : ((j : Int) + 1) = ((j + 1 : Nat) : Int) := by omega
    have ih := bst_t (nb := nb) (N0 := N0) (bB := bB) (bS := bS) (bT := bT) (bn := bn) (bds := bds) (K := K) (a0 := a0) (f := f) (m := m) k (j + 1) (by omega) (by omega) N (by omega)
    unfold f_X4_best_L11
    simp (disch := omega) only [true_or, or_true, gd_T, bd_e, jn_e, bi_e, gd_t, it_e, ie_e, if_true, if_false, ii_lit, ii_add, ii_sub, ii_mul, ii_neg, ii_lt, ii_le, ii_eq, ii_nat, ii_div, ii_nI, Int.toNat_natCast, e, ih]
theorem bst_L (h : Inv9 td nh hd rt X Y g μ) {N0 : Nat} (hN0 : 6000 ≤ N0) {q : Int} (q0 : 1 ≤ q) (q1 : q ≤ 30000) : ∀ (k j : Nat) (f m : Int), j + k = g.2.2.2.2.1 → -1 ≤ m → m ≤ 5000 → -1 ≤ f → f ≤ 10 → ∀ N9 N : Nat, 20 ≤ N9 + j → 20 ≤ N + j → ∃ r : Int, f_X4_best_L11 g.2.2.2.2.1 g.2.2.2.2.2.1 g.2.2.2.2.2.2.1 g.1 N0 g.2.2.2.2.2.2.2.1 g.2.2.2.2.2.2.2.2.1 g.2.2.2.2.2.2.2.2.2 (II q) N9 (II f) (II m) (II j) = some (.inl (II r)) ∧ f_X5_best_L29 μ.1 μ.2.2.2.1 N0 μ.2.2.2.2.1 (II q) N (II f) (II m) (II j) = some (II r, va_up μ.1 0 (II 0)) := by
  obtain ⟨⟨t0, t1, r0, r1, hnb⟩, ⟨k3, k4, k5, k7⟩, ⟨hc, hm⟩, ⟨m1, m3, m4⟩, ⟨hkc, hLG⟩, hB⟩ := id h
  have m1z : (va_up μ.1 0 (II 0)) 1 = II td := (va_up_ne _ _ (by decide)).trans m1
  intro k
  induction k with
  | zero =>
    intro j f m hj a1 a2 a3 a4 N9 N hN9 hN
    refine ⟨f, bst_t (10 - j) j (by omega) (by omega) N9 (by omega), ?_⟩
    obtain ⟨N, rfl⟩ : ∃ N', N = N' + 1 := ⟨N - 1, by omega⟩
    unfold f_X5_best_L29
    simp (disch := omega) only [true_or, or_true, gd_T, bd_e, jn_e, bi_e, gd_t, it_e, ie_e, if_true, if_false, ii_lit, ii_add, ii_sub, ii_mul, ii_neg, ii_lt, ii_le, ii_eq, ii_nat, ii_div, ii_nI, m4]
  | succ k ih =>
    intro j f m hj a1 a2 a3 a4 N9 N hN9 hN
    obtain ⟨N, rfl⟩ : ∃ N', N = N' + 1 := ⟨N - 1, by omega⟩
    obtain ⟨N9, rfl⟩ : ∃ N', N9 = N' + 1 := ⟨N9 - 1, by omega⟩
    obtain ⟨hW, hC, hM⟩ := hB j (by omega)
    have eg := gone_c hC hW
    have ei := iss_c hC hW t0 (show td ≤ 18627 by omega)
    have hw1 := hW.1
    have e : ((j : Int) + 1) = ((j + 1 : Nat) : Int) := by omega
    obtain ⟨r0', x1, x2⟩ := ih (j + 1) f m (by omega) a1 a2 a3 a4 N9 N (by omega) (by omega)
    unfold f_X4_best_L11 f_X5_best_L29
    by_cases c6 : td < X j 0
    · refine ⟨r0', ?_, ?_⟩
      · by_cases c8 : X j 8 = 0
        · simp (disch := omega) only [true_or, or_true, gd_T, bd_e, jn_e, bi_e, gd_t, it_e, ie_e, if_true, if_false, ii_lit, ii_add, ii_sub, ii_mul, ii_neg, ii_lt, ii_le, ii_eq, ii_nat, ii_div, ii_nI, Int.toNat_natCast, eg, k5, ei, e, x1]
        · simp (disch := omega) only [true_or, or_true, gd_T, bd_e, jn_e, bi_e, gd_t, it_e, ie_e, if_true, if_false, ii_lit, ii_add, ii_sub, ii_mul, ii_neg, ii_lt, ii_le, ii_eq, ii_nat, ii_div, ii_nI, Int.toNat_natCast, eg, k5, ei, e, x1]
      · simp (disch := omega) only [true_or, or_true, gd_T, bd_e, jn_e, bi_e, gd_t, it_e, ie_e, if_true, if_false, ii_lit, ii_add, ii_sub, ii_mul, ii_neg, ii_lt, ii_le, ii_eq, ii_nat, ii_div, ii_nI, m4, m1, own_0 hM, e, x2]
    · by_cases c8 : X j 8 = 0
      · obtain ⟨v1, e1, g1⟩ := yld_c hC hW c8 t0 t1 (p := q) (by omega) q1 (show 200 ≤ N0 by omega)
        obtain ⟨v2, e2, g2⟩ := yld_m hM hW c8 m1z t0 t1 (p := q) (by omega) q1 hN0
        have eq := gs_u g1 g2
        subst eq
        have vr1 := g1.1
        have vr2 := g1.2.1
        by_cases c : v1 ≤ m
        · refine ⟨r0', ?_, ?_⟩
          · simp (disch := omega) only [true_or, or_true, gd_T, bd_e, jn_e, bi_e, gd_t, it_e, ie_e, if_true, if_false, ii_lit, ii_add, ii_sub, ii_mul, ii_neg, ii_lt, ii_le, ii_eq, ii_nat, ii_div, ii_nI, Int.toNat_natCast, eg, k5, ei, e1, e, x1]
          · simp (disch := omega) only [true_or, or_true, gd_T, bd_e, jn_e, bi_e, gd_t, it_e, ie_e, if_true, if_false, ii_lit, ii_add, ii_sub, ii_mul, ii_neg, ii_lt, ii_le, ii_eq, ii_nat, ii_div, ii_nI, m4, m1, own_0 hM, e2, e, x2]
        · obtain ⟨r9, y1, y2⟩ := ih (j + 1) j v1 (by omega) vr1 vr2 (by omega) (by omega) N9 N (by omega) (by omega)
          refine ⟨r9, ?_, ?_⟩
          · simp (disch := omega) only [true_or, or_true, gd_T, bd_e, jn_e, bi_e, gd_t, it_e, ie_e, if_true, if_false, ii_lit, ii_add, ii_sub, ii_mul, ii_neg, ii_lt, ii_le, ii_eq, ii_nat, ii_div, ii_nI, Int.toNat_natCast, eg, k5, ei, e1, e, y1]
          · simp (disch := omega) only [true_or, or_true, gd_T, bd_e, jn_e, bi_e, gd_t, it_e, ie_e, if_true, if_false, ii_lit, ii_add, ii_sub, ii_mul, ii_neg, ii_lt, ii_le, ii_eq, ii_nat, ii_div, ii_nI, m4, m1, own_0 hM, e2, e, y2]
      · refine ⟨r0', ?_, ?_⟩
        · simp (disch := omega) only [true_or, or_true, gd_T, bd_e, jn_e, bi_e, gd_t, it_e, ie_e, if_true, if_false, ii_lit, ii_add, ii_sub, ii_mul, ii_neg, ii_lt, ii_le, ii_eq, ii_nat, ii_div, ii_nI, Int.toNat_natCast, eg, k5, ei, e, x1]
        · have ey : f_X5_yielded N0 (va_up μ.1 0 (II 0)) μ.2.2.2.1 μ.2.2.2.2.1 (II j) (II q) = some (II (-1)) := by
            unfold f_X5_yielded
            simp (disch := omega) only [true_or, or_true, gd_T, bd_e, jn_e, bi_e, gd_t, it_e, ie_e, if_true, if_false, ii_lit, ii_add, ii_sub, ii_mul, ii_neg, ii_lt, ii_le, ii_eq, ii_nat, ii_div, ii_nI, thr_m hM hW]
          simp (disch := omega) only [true_or, or_true, gd_T, bd_e, jn_e, bi_e, gd_t, it_e, ie_e, if_true, if_false, ii_lit, ii_add, ii_sub, ii_mul, ii_neg, ii_lt, ii_le, ii_eq, ii_nat, ii_div, ii_nI, m4, m1, own_0 hM, ey, e, x2]
end BST
theorem ok_best {g : SG} {μ : SM} (hI : Inv g μ) {N : Nat} (hN : 10000 ≤ N) (a0 : Int32) : OkM Inv ["java/lang/IllegalArgumentException"] Int32.toInt64 Int32.toInt64 g (k_best N g a0) (q_best N μ a0) := by
  obtain ⟨td, nh, hd, rt, X, Y, h9⟩ := id hI
  obtain ⟨q, q1, q2, rfl⟩ := rng a0
  have ez : II ((0 : Nat) : Int) = II 0 := rfl
  rcases rpr q1 q2 with ⟨d1, d2, d3⟩ | ⟨d1, d3⟩
  · obtain ⟨r, e1, e2⟩ := bst_L h9 (N0 := N) (by omega) d1 d2 g.2.2.2.2.1 0 (-1) (-1) (by omega) (by omega) (by omega) (by omega) (by omega) N N (by omega) (by omega)
    rw [ez] at e1 e2
    refine ok_v (v := II r) (b := II r) (M' := va_up μ.1 0 (II 0)) hI ?_ ?_ (va_up_self _ _ _) (up1 _ _) rfl
    · unfold f_X4_best
      rw [d3]
      simp (disch := omega) only [true_or, or_true, gd_T, bd_e, jn_e, bi_e, gd_t, it_e, ie_e, if_true, if_false, ii_lit, ii_add, ii_sub, ii_mul, ii_neg, ii_lt, ii_le, ii_eq, ii_nat, ii_div, ii_nI, ex_i, e1]
    · unfold q_best f_X5_best
      simp (disch := omega) only [true_or, or_true, gd_T, bd_e, jn_e, bi_e, gd_t, it_e, ie_e, if_true, if_false, ii_lit, ii_add, ii_sub, ii_mul, ii_neg, ii_lt, ii_le, ii_eq, ii_nat, ii_div, ii_nI, isin, e2, mp_e]
  · refine ok_x (E := "java/lang/IllegalArgumentException") (b := II 0) (M' := va_up (va_up μ.1 0 (II 0)) 0 (II 1)) hI ?_ (by decide) ?_ ((va_up_self _ _ _).trans (by decide)) (up2 _ _ _)
    · unfold f_X4_best
      rw [d3]
      simp (disch := omega) only [true_or, or_true, gd_T, bd_e, jn_e, bi_e, gd_t, it_e, ie_e, if_true, if_false, ii_lit, ii_add, ii_sub, ii_mul, ii_neg, ii_lt, ii_le, ii_eq, ii_nat, ii_div, ii_nI, ex_e]
    · unfold q_best f_X5_best f_X5_no
      simp (disch := omega) only [true_or, or_true, gd_T, bd_e, jn_e, bi_e, gd_t, it_e, ie_e, if_true, if_false, ii_lit, ii_add, ii_sub, ii_mul, ii_neg, ii_lt, ii_le, ii_eq, ii_nat, ii_div, ii_nI, isin, mp_e]
