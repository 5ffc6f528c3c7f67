/-! pure: count -/
def SB9 (X : Nat → Nat → Int) : Nat → Nat → Int → Int
  | 0, _, s => s
  | k + 1, j, s => SB9 X k (j + 1) (s + if X j 8 = 0 then 1 else 0)
def SH9 (X : Nat → Nat → Int) : Nat → Nat → Int → Int
  | 0, _, s => s
  | k + 1, j, s => SH9 X k (j + 1) (s + X j 9)
def SW9 (X Y : Nat → Nat → Int) (td rt : Int) : Nat → Nat → Int → Int
  | 0, _, s => s
  | k + 1, j, s => SW9 X Y td rt k (j + 1) (s + X j 9 * (if X j 8 = 0 then WO (X j) (Y j) td (X j 5) rt else 0))
section CNT
variable {td : Int} {nh : Nat} {hd : Nat → Int} {rt : Int} {X Y : Nat → Nat → Int} {g : SG} {μ : SM}
theorem bth_t {nb : Nat} {bB : Nat → Nat → Int32} {s : Int32} : ∀ (k j : Nat), j + k = 10 → nb ≤ j → ∀ N : Nat, k + 1 ≤ N → f_X4_bondsThere_L13 nb bB N s (II j) = some s
  | 0, j, hj, hn, N, hN => by
    obtain ⟨N, rfl⟩ : ∃ N', N = N' + 1 := ⟨N - 1, by omega⟩
    unfold f_X4_bondsThere_L13
    simp (disch := omega) only [true_or, or_true, gd_T, bd_e, jn_e, bi_e, gd_t, it_e, ie_e, if_true, if_false, ii_lit, ii_add, ii_sub, ii_mul, ii_neg, ii_lt, ii_le, ii_eq, ii_nat, ii_div, ii_nI]
  | k + 1, j, hj, hn, N, hN => by
    obtain ⟨N, rfl⟩ : ∃ N', N = N' + 1 := ⟨N - 1, by omega⟩
    have e : ((j : Int) + 1) = ((j + 1 : Nat) : Int) := by omega
    have ih := bth_t (nb := nb) (bB := bB) (s := s) k (j + 1) (by omega) (by omega) N (by omega)
    unfold f_X4_bondsThere_L13
    simp (disch := omega) only [true_or, or_true, gd_T, bd_e, jn_e, bi_e, gd_t, it_e, ie_e, if_true, if_false, ii_lit, ii_add, ii_sub, ii_mul, ii_neg, ii_lt, ii_le, ii_eq, ii_nat, ii_div, ii_nI, Int.toNat_natCast, e, ih]
theorem bth_L (h : Inv9 td nh hd rt X Y g μ) : ∀ (k j : Nat) (s : Int), j + k = g.2.2.2.2.1 → 0 ≤ s → s ≤ j → ∀ N : Nat, 20 ≤ N + j → f_X4_bondsThere_L13 g.2.2.2.2.1 g.2.2.2.2.2.1 N (II s) (II j) = some (II (SB9 X k j s))
  | 0, j, s, hj, h1, h2, N, hN => by
    have hnb := h.1.2.2.2.2
    unfold SB9
    exact bth_t (10 - j) j (by omega) (by omega) N (by omega)
  | k + 1, j, s, hj, h1, h2, N, hN => by
    obtain ⟨N, rfl⟩ : ∃ N', N = N' + 1 := ⟨N - 1, by have := h.1.2.2.2.2; omega⟩
    have hnb := h.1.2.2.2.2
    obtain ⟨hW, hC, hM⟩ := h.2.2.2.2.2 j (by omega)
    have eg := gone_c hC hW
    have e : ((j : Int) + 1) = ((j + 1 : Nat) : Int) := by omega
    unfold f_X4_bondsThere_L13 SB9
    by_cases c : X j 8 = 0
    · have ih := bth_L h k (j + 1) (s + 1) (by omega) (by omega) (by omega) N (by omega)
      simp (disch := omega) only [true_or, or_true, gd_T, bd_e, jn_e, bi_e, gd_t, it_e, ie_e, if_true, if_false, ii_lit, ii_add, ii_sub, ii_mul, ii_neg, ii_lt, ii_le, ii_eq, ii_nat, ii_div, ii_nI, Int.toNat_natCast, eg, e, ih]
    · have ih := bth_L h k (j + 1) (s + 0) (by omega) (by omega) (by omega) N (by omega)
      have e0 : s + 0 = s := by omega
      rw [e0] at ih
      simp (disch := omega) only [true_or, or_true, gd_T, bd_e, jn_e, bi_e, gd_t, it_e, ie_e, if_true, if_false, ii_lit, ii_add, ii_sub, ii_mul, ii_neg, ii_lt, ii_le, ii_eq, ii_nat, ii_div, ii_nI, Int.toNat_natCast, eg, e, e0, ih]
theorem phd_t {nb : Nat} {bB : Nat → Nat → Int32} {s : Int32} : ∀ (k j : Nat), j + k = 10 → nb ≤ j → ∀ N : Nat, k + 1 ≤ N → f_X4_piecesHeld_L13 nb bB N s (II j) = some s
  | 0, j, hj, hn, N, hN => by
    obtain ⟨N, rfl⟩ : ∃ N', N = N' + 1 := ⟨N - 1, by omega⟩
    unfold f_X4_piecesHeld_L13
    simp (disch := omega) only [true_or, or_true, gd_T, bd_e, jn_e, bi_e, gd_t, it_e, ie_e, if_true, if_false, ii_lit, ii_add, ii_sub, ii_mul, ii_neg, ii_lt, ii_le, ii_eq, ii_nat, ii_div, ii_nI]
  | k + 1, j, hj, hn, N, hN => by
    obtain ⟨N, rfl⟩ : ∃ N', N = N' + 1 := ⟨N - 1, by omega⟩
    have e : ((j : Int) + 1) = ((j + 1 : Nat) : Int) := by omega
    have ih := phd_t (nb := nb) (bB := bB) (s := s) k (j + 1) (by omega) (by omega) N (by omega)
    unfold f_X4_piecesHeld_L13
    simp (disch := omega) only [true_or, or_true, gd_T, bd_e, jn_e, bi_e, gd_t, it_e, ie_e, if_true, if_false, ii_lit, ii_add, ii_sub, ii_mul, ii_neg, ii_lt, ii_le, ii_eq, ii_nat, ii_div, ii_nI, Int.toNat_natCast, e, ih]
theorem phd_L (h : Inv9 td nh hd rt X Y g μ) : ∀ (k j : Nat) (s : Int), j + k = g.2.2.2.2.1 → 0 ≤ s → s ≤ 1000 * j → ∀ N : Nat, 20 ≤ N + j → f_X4_piecesHeld_L13 g.2.2.2.2.1 g.2.2.2.2.2.1 N (II s) (II j) = some (II (SH9 X k j s))
  | 0, j, s, hj, h1, h2, N, hN => by
    have hnb := h.1.2.2.2.2
    unfold SH9
    exact phd_t (10 - j) j (by omega) (by omega) N (by omega)
  | k + 1, j, s, hj, h1, h2, N, hN => by
    obtain ⟨N, rfl⟩ : ∃ N', N = N' + 1 := ⟨N - 1, by have := h.1.2.2.2.2; omega⟩
    have hnb := h.1.2.2.2.2
    obtain ⟨hW, hC, hM⟩ := h.2.2.2.2.2 j (by omega)
    have b4 := hC.1.2.2.2.2.1
    have h9 := hW.2.1
    have e : ((j : Int) + 1) = ((j + 1 : Nat) : Int) := by omega
    have ih := phd_L h k (j + 1) (s + X j 9) (by omega) (by omega) (by omega) N (by omega)
    unfold f_X4_piecesHeld_L13 SH9
    simp (disch := omega) only [true_or, or_true, gd_T, bd_e, jn_e, bi_e, gd_t, it_e, ie_e, if_true, if_false, ii_lit, ii_add, ii_sub, ii_mul, ii_neg, ii_lt, ii_le, ii_eq, ii_nat, ii_div, ii_nI, Int.toNat_natCast, b4, e, ih]
theorem whd_t {nb N0 : Nat} {bB bS : Nat → Nat → Int32} {bT : Nat → Nat → Int64} {bn : Nat → Nat} {bds : Nat → Nat → Int32} {K : Nat → Int32} {s : Int64} : ∀ (k j : Nat), j + k = 10 → nb ≤ j → ∀ N : Nat, k + 1 ≤ N → f_X4_worthHeld_L14 nb N0 bB bS bT bn bds K N s (II j) = some s
  | 0, j, hj, hn, N, hN => by
    obtain ⟨N, rfl⟩ : ∃ N', N = N' + 1 := ⟨N - 1, by omega⟩
    unfold f_X4_worthHeld_L14
    simp (disch := omega) only [true_or, or_true, gd_T, bd_e, jn_e, bi_e, gd_t, it_e, ie_e, if_true, if_false, ii_lit, ii_add, ii_sub, ii_mul, ii_neg, ii_lt, ii_le, ii_eq, ii_nat, ii_div, ii_nI]
  | k + 1, j, hj, hn, N, hN => by
    obtain ⟨N, rfl⟩ : ∃ N', N = N' + 1 := ⟨N - 1, by omega⟩
    have e : ((j : Int) + 1) = ((j + 1 : Nat) : Int) := by omega
    have ih := whd_t (nb := nb) (N0 := N0) (bB := bB) (bS := bS) (bT := bT) (bn := bn) (bds := bds) (K := K) (s := s) k (j + 1) (by omega) (by omega) N (by omega)
    unfold f_X4_worthHeld_L14
    simp (disch := omega) only [true_or, or_true, gd_T, bd_e, jn_e, bi_e, gd_t, it_e, ie_e, if_true, if_false, ii_lit, ii_add, ii_sub, ii_mul, ii_neg, ii_lt, ii_le, ii_eq, ii_nat, ii_div, ii_nI, Int.toNat_natCast, e, ih]
theorem whd_L (h : Inv9 td nh hd rt X Y g μ) {N0 : Nat} (hN0 : 300 ≤ N0) : ∀ (k j : Nat) (s : Int), j + k = g.2.2.2.2.1 → ∀ N : Nat, 20 ≤ N + j → f_X4_worthHeld_L14 g.2.2.2.2.1 N0 g.2.2.2.2.2.1 g.2.2.2.2.2.2.1 g.2.2.2.2.2.2.2.1 g.2.2.2.2.2.2.2.2.1 g.2.2.2.2.2.2.2.2.2 g.1 N (LL s) (II j) = some (LL (SW9 X Y td rt k j s))
  | 0, j, s, hj, N, hN => by
    have hnb := h.1.2.2.2.2
    unfold SW9
    exact whd_t (10 - j) j (by omega) (by omega) N (by omega)
  | k + 1, j, s, hj, N, hN => by
    obtain ⟨N, rfl⟩ : ∃ N', N = N' + 1 := ⟨N - 1, by have := h.1.2.2.2.2; omega⟩
    have hnb := h.1
    obtain ⟨k3, k4, k5, k7⟩ := h.2.1
    obtain ⟨hW, hC, hM⟩ := h.2.2.2.2.2 j (by omega)
    have b4 := hC.1.2.2.2.2.1
    have b1 := hC.1.2.1
    have h9 := hW.2.1
    have e : ((j : Int) + 1) = ((j + 1 : Nat) : Int) := by omega
    have ih := whd_L h hN0 k (j + 1) (s + X j 9 * (if X j 8 = 0 then WO (X j) (Y j) td (X j 5) rt else 0)) (by omega) N (by omega)
    have ew := wor_c hC hW (t := td) (l := X j 5) (y := rt) (by omega) (by omega) h9.1 h9.2.1 (by omega) (by omega) (show 200 ≤ N0 by omega)
    unfold f_X4_worthHeld_L14 SW9
    generalize (if X j 8 = 0 then WO (X j) (Y j) td (X j 5) rt else 0) = wv at *
    simp (disch := omega) only [true_or, or_true, gd_T, bd_e, jn_e, bi_e, gd_t, it_e, ie_e, if_true, if_false, ii_lit, ii_add, ii_sub, ii_mul, ii_neg, ii_lt, ii_le, ii_eq, ii_nat, ii_div, ii_nI, ll_lit, ll_add, ll_sub, ll_mul, ll_neg, ll_div, ii_toL, ll_toI, lz_gt, lz_lt, lz_le, lz_ge, lz_eq, ll_lt, ll_le, ll_eq, Int.toNat_natCast, b4, b1, k5, k7, ew, e, ih]
end CNT
