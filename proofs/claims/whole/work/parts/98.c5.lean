/-! pure: ladder agrees: its years -/
section LAF
variable {td : Int} {nh : Nat} {hd : Nat → Int} {rt : Int} {X Y : Nat → Nat → Int} {g : SG} {μ : SM}
theorem lw_r (h : Inv9 td nh hd rt X Y g μ) {yr : Int} : ∀ (k j : Nat) (l : Int), j + k = g.2.2.2.2.1 → -1 ≤ l → l ≤ 200000000 → -1 ≤ LW9 X Y td rt yr k j l ∧ LW9 X Y td rt yr k j l ≤ 200000000 := by
  obtain ⟨⟨t0, t1, r0, r1, hnb⟩, -, -, -, -, hB⟩ := id h
  intro k
  induction k with
  | zero => intro j l hj h1 h2; unfold LW9; omega
  | succ k ih =>
    intro j l hj h1 h2
    have hW := (hB j (by omega)).1
    have h9 := hW.2.1
    have wr := wo_r hW (t := td) (l := X j 5) (y := rt) t0 h9.1 h9.2.1 r0 (by omega)
    unfold LW9
    split
    · split
      · exact ih (j + 1) _ (by omega) (by omega) (by omega)
      · exact ih (j + 1) _ (by omega) h1 h2
    · exact ih (j + 1) _ (by omega) h1 h2
theorem lad_Y (h : Inv9 td nh hd rt X Y g μ) {N0 : Nat} (hN0 : 300 ≤ N0) {y9 : Int} (hy9 : y9 ≤ 2066) {K8 : Int64 → Option (Int32 ⊕ String)} {K5 : Int64 → Option (Int32 × (Nat → Int32))} (hKK : ∀ s : Int, 0 ≤ s → s ≤ 20000000000 → ∃ r : Int, K8 (LL s) = some (.inl (II r)) ∧ K5 (LL s) = some (II r, va_up μ.1 0 (II 0))) : ∀ (k : Nat) (yr s : Int), yr + k = y9 + 1 → 2016 ≤ yr → 0 ≤ s → s ≤ 200000000 * (yr - 2016) → ∀ N9 N : Nat, k + 1 ≤ N9 → k + 1 ≤ N → ∃ r : Int, f_X4_ladder_L29 (II y9) N0 g.1 g.2.2.2.2.1 g.2.2.2.2.2.1 g.2.2.2.2.2.2.1 g.2.2.2.2.2.2.2.1 g.2.2.2.2.2.2.2.2.1 g.2.2.2.2.2.2.2.2.2 K8 N9 (LL s) (II yr) = some (.inl (II r)) ∧ f_X5_ladder_L40 (II y9) μ.1 μ.2.2.2.1 N0 μ.2.2.2.2.1 K5 N (LL s) (II yr) = some (II r, va_up μ.1 0 (II 0)) := by
  have hnb := h.1.2.2.2.2
  have ez : II ((0 : Nat) : Int) = II 0 := rfl
  intro k
  induction k with
  | zero =>
    intro yr s hy h0 hs hs2 N9 N hN9 hN
    obtain ⟨N, rfl⟩ : ∃ N', N = N' + 1 := ⟨N - 1, by omega⟩
    obtain ⟨N9, rfl⟩ : ∃ N', N9 = N' + 1 := ⟨N9 - 1, by omega⟩
    obtain ⟨r, a, b⟩ := hKK s hs (by omega)
    refine ⟨r, ?_, ?_⟩
    · unfold f_X4_ladder_L29
      simp (disch := omega) only [true_or, or_true, gd_T, bd_e, jn_e, bi_e, gd_t, it_e, ie_e, if_true, if_false, ii_lit, ii_add, ii_sub, ii_mul, ii_neg, ii_lt, ii_le, ii_eq, ii_nat, ii_div, ii_nI, a]
    · unfold f_X5_ladder_L40
      simp (disch := omega) only [true_or, or_true, gd_T, bd_e, jn_e, bi_e, gd_t, it_e, ie_e, if_true, if_false, ii_lit, ii_add, ii_sub, ii_mul, ii_neg, ii_lt, ii_le, ii_eq, ii_nat, ii_div, ii_nI, b]
  | succ k ih =>
    intro yr s hy h0 hs hs2 N9 N hN9 hN
    obtain ⟨N, rfl⟩ : ∃ N', N = N' + 1 := ⟨N - 1, by omega⟩
    obtain ⟨N9, rfl⟩ : ∃ N', N9 = N' + 1 := ⟨N9 - 1, by omega⟩
    have lr := lw_r h (yr := yr) g.2.2.2.2.1 0 (-1) (by omega) (by omega) (by omega)
    have lc := lad_L h hN0 h0 (show yr ≤ 2066 by omega) g.2.2.2.2.1 0 (-1) (by omega) (by omega) (by omega) N0 (by omega)
    have lm := fun K15 => lad_M h hN0 h0 (show yr ≤ 2066 by omega) (K15 := K15) g.2.2.2.2.1 0 (-1) (by omega) (by omega) (by omega) N0 (by omega)
    rw [ez] at lc lm
    generalize LW9 X Y td rt yr g.2.2.2.2.1 0 (-1) = w at *
    unfold f_X4_ladder_L29 f_X4_leastWorth f_X5_ladder_L40
    by_cases c : w = -1
    · refine ⟨-1, ?_, ?_⟩
      · simp (disch := omega) only [true_or, or_true, gd_T, bd_e, jn_e, bi_e, gd_t, it_e, ie_e, if_true, if_false, ii_lit, ii_add, ii_sub, ii_mul, ii_neg, ii_lt, ii_le, ii_eq, ii_nat, ii_div, ii_nI, ll_lit, ll_add, ll_sub, ll_mul, ll_neg, ll_div, ii_toL, ll_toI, lz_gt, lz_lt, lz_le, lz_ge, lz_eq, ll_lt, ll_le, ll_eq, lc]
      · simp (disch := omega) only [true_or, or_true, gd_T, bd_e, jn_e, bi_e, gd_t, it_e, ie_e, if_true, if_false, ii_lit, ii_add, ii_sub, ii_mul, ii_neg, ii_lt, ii_le, ii_eq, ii_nat, ii_div, ii_nI, ll_lit, ll_add, ll_sub, ll_mul, ll_neg, ll_div, ii_toL, ll_toI, lz_gt, lz_lt, lz_le, lz_ge, lz_eq, ll_lt, ll_le, ll_eq, lm]
    · obtain ⟨r, a, b⟩ := ih (yr + 1) (s + w) (by omega) (by omega) (by omega) (by omega) N9 N (by omega) (by omega)
      refine ⟨r, ?_, ?_⟩
      · simp (disch := omega) only [true_or, or_true, gd_T, bd_e, jn_e, bi_e, gd_t, it_e, ie_e, if_true, if_false, ii_lit, ii_add, ii_sub, ii_mul, ii_neg, ii_lt, ii_le, ii_eq, ii_nat, ii_div, ii_nI, ll_lit, ll_add, ll_sub, ll_mul, ll_neg, ll_div, ii_toL, ll_toI, lz_gt, lz_lt, lz_le, lz_ge, lz_eq, ll_lt, ll_le, ll_eq, lc, a]
      · simp (disch := omega) only [true_or, or_true, gd_T, bd_e, jn_e, bi_e, gd_t, it_e, ie_e, if_true, if_false, ii_lit, ii_add, ii_sub, ii_mul, ii_neg, ii_lt, ii_le, ii_eq, ii_nat, ii_div, ii_nI, ll_lit, ll_add, ll_sub, ll_mul, ll_neg, ll_div, ii_toL, ll_toI, lz_gt, lz_lt, lz_le, lz_ge, lz_eq, ll_lt, ll_le, ll_eq, lm, b]
end LAF
