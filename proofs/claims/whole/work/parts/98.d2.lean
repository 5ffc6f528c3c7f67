/-! pure: months back, step by step -/
def FM9 (f m : Int) : Prop := (f = 1 ∧ m = 12) ∨ (f = 2 ∧ m = 6) ∨ (f = 4 ∧ m = 3) ∨ (f = 12 ∧ m = 1)
theorem fm_d {f m : Int} (h : FM9 f m) : (12 : Int) / f = m := by rcases h with ⟨rfl, rfl⟩ | ⟨rfl, rfl⟩ | ⟨rfl, rfl⟩ | ⟨rfl, rfl⟩ <;> decide
theorem fm_r {f m : Int} (h : FM9 f m) : 1 ≤ f ∧ f ≤ 12 ∧ 1 ≤ m ∧ m ≤ 12 ∧ (f = 1 ∨ f = 2 ∨ f = 4 ∨ f = 12) := by rcases h with ⟨rfl, rfl⟩ | ⟨rfl, rfl⟩ | ⟨rfl, rfl⟩ | ⟨rfl, rfl⟩ <;> omega
theorem fm_b {f m : Int} (h : FM9 f m) {x : Int} (h0 : 0 ≤ x) : 0 ≤ x * m ∧ x ≤ x * m ∧ x * m ≤ 12 * x := by rcases h with ⟨rfl, rfl⟩ | ⟨rfl, rfl⟩ | ⟨rfl, rfl⟩ | ⟨rfl, rfl⟩ <;> omega
theorem fm_s {f m : Int} (h : FM9 f m) (x : Int) : (x + 1) * m = x * m + m := by rcases h with ⟨rfl, rfl⟩ | ⟨rfl, rfl⟩ | ⟨rfl, rfl⟩ | ⟨rfl, rfl⟩ <;> omega
theorem fm_l {f m : Int} (h : FM9 f m) {x y : Int} (h0 : x < y) : x * m < y * m := by rcases h with ⟨rfl, rfl⟩ | ⟨rfl, rfl⟩ | ⟨rfl, rfl⟩ | ⟨rfl, rfl⟩ <;> omega
theorem fm_le {f m : Int} (h : FM9 f m) {x y : Int} (h0 : x ≤ y) : x * m ≤ y * m := by rcases h with ⟨rfl, rfl⟩ | ⟨rfl, rfl⟩ | ⟨rfl, rfl⟩ | ⟨rfl, rfl⟩ <;> omega
theorem fm_j {β : Type} {f m : Int} (h : FM9 f m) (k z : β) {_ : Decidable (f = 1)} {_ : Decidable (f = 2)} {_ : Decidable (f = 4)} {_ : Decidable (f = 12)} : (if f = 1 then k else if f = 2 then k else if f = 4 then k else if f = 12 then k else z) = k := by
  by_cases c1 : f = 1
  · rw [if_pos c1]
  · rw [if_neg c1]
    by_cases c2 : f = 2
    · rw [if_pos c2]
    · rw [if_neg c2]
      by_cases c3 : f = 4
      · rw [if_pos c3]
      · rw [if_neg c3, if_pos (by have := (fm_r h).2.2.2.2; omega)]
theorem mt_r {e : Int} (h1 : 0 ≤ e) (h2 : e ≤ 18627) : 24192 ≤ mt e 0 ∧ mt e 0 ≤ 24803 := by
  obtain ⟨a1, a2, a3, a4, -⟩ := dd_r h1 h2
  unfold mt
  omega
theorem mt_k (e k : Int) : mt e k = mt e 0 - k := by unfold mt; omega
theorem mb_b {e k : Int} (h1 : 0 ≤ e) (h2 : e ≤ 18627) (h3 : 0 ≤ k) (h4 : 24180 ≤ mt e k) : 20150101 ≤ MB e k ∧ MB e k ≤ 20661231 := by
  obtain ⟨b1, b2, b3, b4, b5, b6, b7, b8⟩ := mb_r h1 h2 h3 h4
  unfold MB
  omega
theorem mb_lt {e k k' : Int} (h1 : 0 ≤ e) (h2 : e ≤ 18627) (h3 : 0 ≤ k) (h : k < k') (h4 : 24180 ≤ mt e k') : MB e k' < MB e k := by
  have q1 := mt_k e k
  have q2 := mt_k e k'
  obtain ⟨b1, b2, b3, b4, b5, b6, b7, b8⟩ := mb_r h1 h2 h3 (show 24180 ≤ mt e k by omega)
  obtain ⟨c1, c2, c3, c4, c5, c6, c7, c8⟩ := mb_r h1 h2 (show 0 ≤ k' by omega) h4
  unfold MB
  omega
theorem mb_0 {e : Int} (h1 : 0 ≤ e) (h2 : e ≤ 18627) : MB e 0 = DD e := by
  obtain ⟨a1, a2, a3, a4, a5, a6, a7, a8⟩ := dd_r h1 h2
  have ey : mby e 0 = cy e := by unfold mby mt; omega
  have em : mbm e 0 = mn e := by unfold mbm mt; omega
  have ed : mbd e 0 = dn e := by
    unfold mbd
    rw [ey, em]
    repeat' split
    all_goals omega
  unfold MB DD
  rw [ey, em, ed]
theorem mb_16 {e k : Int} (h1 : 0 ≤ e) (h2 : e ≤ 18627) (h3 : 0 ≤ k) (h4 : 24180 ≤ mt e k) (h : 20160101 ≤ MB e k) : 24192 ≤ mt e k := by
  obtain ⟨b1, b2, b3, b4, b5, b6, b7, b8⟩ := mb_r h1 h2 h3 h4
  unfold MB at h
  omega
theorem mb_dd {e k : Int} (h1 : 0 ≤ e) (h2 : e ≤ 18627) (h3 : 0 ≤ k) (h4 : 24180 ≤ mt e k) (h : 20160101 ≤ MB e k) : ∃ n, 0 ≤ n ∧ n ≤ 18627 ∧ DD n = MB e k := by
  have h6 := mb_16 h1 h2 h3 h4 h
  obtain ⟨b1, b2, b3, b4, b5, b6, b7, b8⟩ := mb_r h1 h2 h3 h4
  obtain ⟨n, n1, n2, n3, n4, n5⟩ := dd_of (y := mby e k) (m := mbm e k) (d := mbd e k) (by omega) b2 b3 b4 b5 b6
  refine ⟨n, n1, n2, ?_⟩
  unfold DD MB
  rw [n3, n4, n5]
theorem db_x {e x f m : Int} (h : FM9 f m) (h1 : 0 ≤ e) (h2 : e ≤ 18627) (h3 : 0 ≤ x) (h5 : x ≤ 1000) (h4 : 24180 ≤ mt e (x * m)) : f_X3_dateBack (II (DD e)) (II x) (II f) = some (II (MB e (x * m))) := by
  have r := fm_r h
  have b := fm_b h h3
  have e1 := mb_x1 h1 h2 b.1 h4
  unfold f_X3_dateBack
  simp (disch := omega) only [true_or, or_true, gd_T, bd_e, jn_e, bi_e, gd_t, it_e, ie_e, if_true, if_false, ii_lit, ii_add, ii_sub, ii_mul, ii_neg, ii_lt, ii_le, ii_eq, ii_nat, ii_div, ii_nI, fm_d h, e1]
theorem db_5 {e x f m : Int} (h : FM9 f m) (h1 : 0 ≤ e) (h2 : e ≤ 18627) (h3 : 0 ≤ x) (h5 : x ≤ 1000) (h4 : 24180 ≤ mt e (x * m)) : f_X5_moved (II (DD e)) (12 / II f * II x) = some (II (MB e (x * m))) := by
  have r := fm_r h
  have b := fm_b h h3
  have e1 := mb_x5 h1 h2 b.1 h4
  have hc : m * x = x * m := Int.mul_comm _ _
  simp (disch := omega) only [true_or, or_true, gd_T, bd_e, jn_e, bi_e, gd_t, it_e, ie_e, if_true, if_false, ii_lit, ii_add, ii_sub, ii_mul, ii_neg, ii_lt, ii_le, ii_eq, ii_nat, ii_div, ii_nI, fm_d h, hc, e1]
/-- how many coupon dates -/
def CT (s e m : Int) (C : Nat) : Prop := 1 ≤ C ∧ C ≤ 623 ∧ MB e (C * m) ≤ DD s ∧ 24180 ≤ mt e (C * m) ∧ ∀ y : Nat, y < C → DD s < MB e (y * m) ∧ 24192 ≤ mt e (y * m)
theorem ct_ex {s e f m : Int} (h : FM9 f m) (s0 : 0 ≤ s) (hse : s < e) (h2 : e ≤ 18627) : ∃ C, CT s e m C := by
  have r := fm_r h
  have hds := dd_b s0 (show s ≤ 18627 by omega)
  have key : ∀ (k x : Nat), mt e (x * m) < 24192 + k → (∀ y : Nat, y < x → DD s < MB e (y * m) ∧ 24192 ≤ mt e (y * m)) → 24180 ≤ mt e (x * m) → ∃ C : Nat, MB e (C * m) ≤ DD s ∧ 24180 ≤ mt e (C * m) ∧ ∀ y : Nat, y < C → DD s < MB e (y * m) ∧ 24192 ≤ mt e (y * m) := by
    intro k
    induction k with
    | zero =>
      intro x a1 a2 a3
      refine ⟨x, ?_, a3, a2⟩
      have b := fm_b h (x := (x : Int)) (by omega)
      apply Decidable.byContradiction
      intro hc
      have := mb_16 (by omega) h2 b.1 a3 (by omega)
      omega
    | succ k ih =>
      intro x a1 a2 a3
      have b := fm_b h (x := (x : Int)) (by omega)
      by_cases c : MB e (x * m) ≤ DD s
      · exact ⟨x, c, a3, a2⟩
      · have h6 := mb_16 (by omega) h2 b.1 a3 (by omega)
        have es := fm_s h (x : Int)
        have q1 := mt_k e (x * m)
        have q2 := mt_k e (x * m + m)
        have ec : (((x + 1 : Nat) : Int)) * m = x * m + m := by rw [← es]; rfl
        refine ih (x + 1) ?_ ?_ ?_
        · rw [ec]; omega
        · intro y hy
          by_cases cy : y = x
          · subst cy; exact ⟨by omega, h6⟩
          · exact a2 y (by omega)
        · rw [ec]; omega
  have r0 := mt_r (show 0 ≤ e by omega) h2
  have z : (((0 : Nat) : Int)) * m = 0 := by simp
  obtain ⟨C, c1, c2, c3⟩ := key 1000 0 (by rw [z]; omega) (fun y hy => absurd hy (Nat.not_lt_zero y)) (by rw [z]; omega)
  have b := fm_b h (x := (C : Int)) (by omega)
  have q1 := mt_k e (C * m)
  refine ⟨C, ?_, by omega, c1, c2, c3⟩
  apply Decidable.byContradiction
  intro hc
  have : C = 0 := by omega
  subst this
  rw [z, mb_0 (by omega) h2] at c1
  have := dd_lt s0 hse h2
  omega
theorem cc_L {s e f m : Int} {C : Nat} (h : FM9 f m) (s0 : 0 ≤ s) (hse : s < e) (h2 : e ≤ 18627) (hC : CT s e m C) : ∀ (k x : Nat), x + k = (if C ≤ 120 then C else 121) → ∀ N : Nat, k + 1 ≤ N → f_X3_countCoupons_L2 (II (DD e)) (II f) (II (DD s)) N (II x) = some (II ((if C ≤ 120 then C else 121 : Nat) : Int))
  | 0, x, hx, N, hN => by
    obtain ⟨N, rfl⟩ : ∃ N', N = N' + 1 := ⟨N - 1, by omega⟩
    obtain ⟨c1, c2, c3, c4, c5⟩ := hC
    have hds := dd_b s0 (show s ≤ 18627 by omega)
    have hx : x = (if C ≤ 120 then C else 121) := hx
    rw [← hx]
    unfold f_X3_countCoupons_L2
    by_cases c : C ≤ 120
    · rw [if_pos c] at hx
      subst hx
      have b := fm_b h (x := (x : Int)) (by omega)
      have mb := mb_b (show 0 ≤ e by omega) h2 b.1 c4
      simp (disch := omega) only [true_or, or_true, gd_T, bd_e, jn_e, bi_e, gd_t, it_e, ie_e, if_true, if_false, ii_lit, ii_add, ii_sub, ii_mul, ii_neg, ii_lt, ii_le, ii_eq, ii_nat, ii_div, ii_nI, db_x h (show 0 ≤ e by omega) h2 (show 0 ≤ (x : Int) by omega) (show (x : Int) ≤ 1000 by omega) c4]
    · rw [if_neg c] at hx
      subst hx
      simp (disch := omega) only [true_or, or_true, gd_T, bd_e, jn_e, bi_e, gd_t, it_e, ie_e, if_true, if_false, ii_lit, ii_add, ii_sub, ii_mul, ii_neg, ii_lt, ii_le, ii_eq, ii_nat, ii_div, ii_nI]
  | k + 1, x, hx, N, hN => by
    obtain ⟨N, rfl⟩ : ∃ N', N = N' + 1 := ⟨N - 1, by omega⟩
    have ih := cc_L h s0 hse h2 hC k (x + 1) (by omega) N (by omega)
    obtain ⟨c1, c2, c3, c4, c5⟩ := hC
    have hds := dd_b s0 (show s ≤ 18627 by omega)
    have hx1 : x < C ∧ x ≤ 120 := by split at hx <;> omega
    obtain ⟨d1, d2⟩ := c5 x hx1.1
    have b := fm_b h (x := (x : Int)) (by omega)
    have mb := mb_b (show 0 ≤ e by omega) h2 b.1 (show 24180 ≤ mt e (x * m) by omega)
    have e9 : ((x : Int) + 1) = ((x + 1 : Nat) : Int) := by omega
    unfold f_X3_countCoupons_L2
    simp (disch := omega) only [true_or, or_true, gd_T, bd_e, jn_e, bi_e, gd_t, it_e, ie_e, if_true, if_false, ii_lit, ii_add, ii_sub, ii_mul, ii_neg, ii_lt, ii_le, ii_eq, ii_nat, ii_div, ii_nI, db_x h (show 0 ≤ e by omega) h2 (show 0 ≤ (x : Int) by omega) (show (x : Int) ≤ 1000 by omega) (show 24180 ≤ mt e (x * m) by omega), e9, ih]
theorem cm_L {s e f m : Int} {C : Nat} (h : FM9 f m) (s0 : 0 ≤ s) (hse : s < e) (h2 : e ≤ 18627) (hC : CT s e m C) {K20 : Int32 → Option (Int32 × (Nat → Int32) × (Nat → Int32) × (Nat → Int32))} : ∀ (k x : Nat), x + k = C → ∀ N : Nat, k + 1 ≤ N → f_X5_addBond_L102 (II f) (II (DD e)) (II (DD s)) K20 N (II x) = K20 (II C)
  | 0, x, hx, N, hN => by
    obtain ⟨N, rfl⟩ : ∃ N', N = N' + 1 := ⟨N - 1, by omega⟩
    obtain ⟨c1, c2, c3, c4, c5⟩ := hC
    have r := fm_r h
    have hds := dd_b s0 (show s ≤ 18627 by omega)
    have hx : x = C := by omega
    subst hx
    have b := fm_b h (x := (x : Int)) (by omega)
    have mb := mb_b (show 0 ≤ e by omega) h2 b.1 c4
    have ed := db_5 h (show 0 ≤ e by omega) h2 (show 0 ≤ (x : Int) by omega) (show (x : Int) ≤ 1000 by omega) c4
    unfold f_X5_addBond_L102
    rw [ed]
    simp (disch := omega) only [true_or, or_true, gd_T, bd_e, jn_e, bi_e, gd_t, it_e, ie_e, if_true, if_false, ii_lit, ii_add, ii_sub, ii_mul, ii_neg, ii_lt, ii_le, ii_eq, ii_nat, ii_div, ii_nI]
  | k + 1, x, hx, N, hN => by
    obtain ⟨N, rfl⟩ : ∃ N', N = N' + 1 := ⟨N - 1, by omega⟩
    have ih := cm_L h s0 hse h2 hC (K20 := K20) k (x + 1) (by omega) N (by omega)
    obtain ⟨c1, c2, c3, c4, c5⟩ := hC
    have r := fm_r h
    have hds := dd_b s0 (show s ≤ 18627 by omega)
    obtain ⟨d1, d2⟩ := c5 x (by omega)
    have b := fm_b h (x := (x : Int)) (by omega)
    have mb := mb_b (show 0 ≤ e by omega) h2 b.1 (show 24180 ≤ mt e (x * m) by omega)
    have ed := db_5 h (show 0 ≤ e by omega) h2 (show 0 ≤ (x : Int) by omega) (show (x : Int) ≤ 1000 by omega) (show 24180 ≤ mt e (x * m) by omega)
    have e9 : ((x : Int) + 1) = ((x + 1 : Nat) : Int) := by omega
    unfold f_X5_addBond_L102
    rw [ed]
    simp (disch := omega) only [true_or, or_true, gd_T, bd_e, jn_e, bi_e, gd_t, it_e, ie_e, if_true, if_false, ii_lit, ii_add, ii_sub, ii_mul, ii_neg, ii_lt, ii_le, ii_eq, ii_nat, ii_div, ii_nI, e9, ih]
