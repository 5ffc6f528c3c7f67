/-! pure: the days of a new bond -/
/-- the day numbers of its first begin and of its coupon dates -/
def DY (e m : Int) (C : Nat) (Y : Nat → Int) : Prop := ∀ j : Nat, j ≤ C → 0 ≤ Y j ∧ Y j ≤ 18627 ∧ DD (Y j) = MB e (((C : Int) - j) * m) ∧ 24192 ≤ mt e (((C : Int) - j) * m)
theorem dy_ex {s e f m : Int} {C : Nat} (h : FM9 f m) (s0 : 0 ≤ s) (hse : s < e) (h2 : e ≤ 18627) (hC : CT s e m C) (h16 : 20160101 ≤ MB e (C * m)) : ∃ Y, DY e m C Y := by
  obtain ⟨c1, c2, c3, c4, c5⟩ := hC
  have b0 := fm_b h (x := (C : Int)) (by omega)
  have h6 := mb_16 (by omega) h2 b0.1 c4 h16
  have q1 := mt_k e (C * m)
  have key : ∀ j : Nat, ∃ n : Int, j ≤ C → 0 ≤ n ∧ n ≤ 18627 ∧ DD n = MB e (((C : Int) - j) * m) ∧ 24192 ≤ mt e (((C : Int) - j) * m) := by
    intro j
    by_cases c : j ≤ C
    · have b := fm_b h (x := (C : Int) - j) (by omega)
      have bl := fm_le h (x := (C : Int) - j) (y := C) (by omega)
      have q2 := mt_k e (((C : Int) - j) * m)
      have hge : 20160101 ≤ MB e (((C : Int) - j) * m) := by
        by_cases cj : ((C : Int) - j) * m = C * m
        · rw [cj]; exact h16
        · have := mb_lt (e := e) (k := ((C : Int) - j) * m) (k' := C * m) (by omega) h2 b.1 (by omega) c4
          omega
      obtain ⟨n, n1, n2, n3⟩ := mb_dd (by omega) h2 b.1 (show 24180 ≤ mt e (((C : Int) - j) * m) by omega) hge
      exact ⟨n, fun _ => ⟨n1, n2, n3, by omega⟩⟩
    · exact ⟨0, fun hc => absurd hc c⟩
  obtain ⟨Y, hY⟩ := Classical.axiomOfChoice key
  exact ⟨Y, hY⟩
theorem dy_f {s e f m : Int} {C : Nat} {Y : Nat → Int} (h : FM9 f m) (s0 : 0 ≤ s) (hse : s < e) (h2 : e ≤ 18627) (hC : CT s e m C) (hY : DY e m C Y) : 0 ≤ Y 0 ∧ Y 0 ≤ s ∧ s < Y 1 ∧ (∀ j : Nat, j < C → Y j < Y (j + 1)) ∧ Y C = e := by
  obtain ⟨c1, c2, c3, c4, c5⟩ := hC
  obtain ⟨y1, y2, y3, -⟩ := hY 0 (by omega)
  obtain ⟨z1, z2, z3, -⟩ := hY 1 (by omega)
  obtain ⟨w1, w2, w3, -⟩ := hY C (by omega)
  have e0 : ((C : Int) - ((0 : Nat) : Int)) = C := by omega
  have e1 : ((C : Int) - ((1 : Nat) : Int)) = ((C - 1 : Nat) : Int) := by omega
  have e2 : ((C : Int) - (C : Int)) * m = 0 := by rw [Int.sub_self, Int.zero_mul]
  rw [e0] at y3
  rw [e1] at z3
  rw [e2, mb_0 (by omega) h2] at w3
  obtain ⟨d1, d2⟩ := c5 (C - 1) (by omega)
  have l1 := dd_le_iff y1 y2 s0 (show s ≤ 18627 by omega)
  have l2 := dd_lt_iff s0 (show s ≤ 18627 by omega) z1 z2
  have l3 := dd_le_iff w1 w2 (show 0 ≤ e by omega) h2
  have l4 := dd_le_iff (show 0 ≤ e by omega) h2 w1 w2
  refine ⟨y1, ?_, ?_, fun j hj => ?_, ?_⟩
  · rw [← l1]; omega
  · rw [← l2]; omega
  · obtain ⟨u1, u2, u3, -⟩ := hY j (by omega)
    obtain ⟨v1, v2, v3, v4⟩ := hY (j + 1) (by omega)
    have l5 := dd_lt_iff u1 u2 v1 v2
    have b := fm_b h (x := (C : Int) - ((j + 1 : Nat) : Int)) (by omega)
    have bl := fm_l h (x := (C : Int) - ((j + 1 : Nat) : Int)) (y := (C : Int) - j) (by omega)
    obtain ⟨-, -, -, u4⟩ := hY j (by omega)
    have := mb_lt (e := e) (by omega) h2 b.1 bl (by omega)
    rw [← l5]
    omega
  · have p1 : Y C ≤ e := by rw [← l3]; omega
    have p2 : e ≤ Y C := by rw [← l4]; omega
    omega
section ADB
variable {s e f m : Int} {C : Nat} {Y : Nat → Int}
theorem dys_c (h : FM9 f m) (s0 : 0 ≤ s) (hse : s < e) (h2 : e ≤ 18627) (hC1 : C ≤ 623) (hY : DY e m C Y) {w7 : Nat → Int32} {w8 : Nat → Int64} : ∀ (k x : Nat) (w : Nat → Int32), x + k = C → ∀ N : Nat, k + 1 ≤ N → ∃ ds : Nat → Int32, (∀ j, x ≤ j → j < C → ds j = II (DD (Y (j + 1)))) ∧ (∀ j, j < x → ds j = w j) ∧ ∀ K11, f_X3_init_L63 (II (DD e)) (II f) K11 N (II x) w7 w8 C w = K11 w7 w8 C ds
  | 0, x, w, hx, N, hN => by
    obtain ⟨N, rfl⟩ : ∃ N', N = N' + 1 := ⟨N - 1, by omega⟩
    refine ⟨w, fun j h1 h2 => absurd h1 (by omega), fun j hj => rfl, fun K11 => ?_⟩
    unfold f_X3_init_L63
    simp (disch := omega) only [true_or, or_true, gd_T, bd_e, jn_e, bi_e, gd_t, it_e, ie_e, if_true, if_false, ii_lit, ii_add, ii_sub, ii_mul, ii_neg, ii_lt, ii_le, ii_eq, ii_nat, ii_div, ii_nI]
  | k + 1, x, w, hx, N, hN => by
    obtain ⟨N, rfl⟩ : ∃ N', N = N' + 1 := ⟨N - 1, by omega⟩
    have r := fm_r h
    obtain ⟨v1, v2, v3, v4⟩ := hY (x + 1) (by omega)
    have ec : ((C : Int) - 1 - x) = ((C : Int) - ((x + 1 : Nat) : Int)) := by omega
    have ed := db_x (e := e) h (by omega) h2 (x := (C : Int) - ((x + 1 : Nat) : Int)) (by omega) (by omega) (by omega)
    rw [← v3] at ed
    have e9 : ((x : Int) + 1) = ((x + 1 : Nat) : Int) := by omega
    obtain ⟨ds, d1, d2, d3⟩ := dys_c h s0 hse h2 hC1 hY (w7 := w7) (w8 := w8) k (x + 1) (upd w x (II (DD (Y (x + 1))))) (by omega) N (by omega)
    refine ⟨ds, fun j h1 h3 => ?_, fun j hj => ?_, fun K11 => ?_⟩
    · by_cases c : j = x
      · subst c
        rw [d2 j (by omega)]
        simp [upd]
      · exact d1 j (by omega) h3
    · rw [d2 j (by omega)]
      have : j ≠ x := by omega
      simp [upd, this]
    · unfold f_X3_init_L63
      simp (disch := omega) only [true_or, or_true, gd_T, bd_e, jn_e, bi_e, gd_t, it_e, ie_e, if_true, if_false, ii_lit, ii_add, ii_sub, ii_mul, ii_neg, ii_lt, ii_le, ii_eq, ii_nat, ii_div, ii_nI, ec, ed, Int.toNat_natCast, e9, d3]
theorem dys_m (h : FM9 f m) (s0 : 0 ≤ s) (hse : s < e) (h2 : e ≤ 18627) (hC1 : C ≤ 120) (hY : DY e m C Y) {i : Nat} (hi : i < 10) {N0 : Nat} (hN0 : 100 ≤ N0) {w34 w35 : Nat → Int32} (hw : w34 4 = II i) : ∀ (k x : Nat) (w : Nat → Int32), x + k = C + 1 → ∀ N : Nat, k + 1 ≤ N → ∃ dy : Nat → Int32, (∀ j, x ≤ j → j ≤ C → dy (121 * i + j) = II (Y j)) ∧ (∀ q, (q < 121 * i + x ∨ 121 * i + C < q) → dy q = w q) ∧ ∀ K37, f_X5_addBond_L172 (II C) (II f) (II (DD e)) N0 K37 N (II x) w34 w35 w = K37 w34 w35 dy
  | 0, x, w, hx, N, hN => by
    obtain ⟨N, rfl⟩ : ∃ N', N = N' + 1 := ⟨N - 1, by omega⟩
    refine ⟨w, fun j h1 h2 => absurd h1 (by omega), fun j hj => rfl, fun K11 => ?_⟩
    unfold f_X5_addBond_L172
    simp (disch := omega) only [true_or, or_true, gd_T, bd_e, jn_e, bi_e, gd_t, it_e, ie_e, if_true, if_false, ii_lit, ii_add, ii_sub, ii_mul, ii_neg, ii_lt, ii_le, ii_eq, ii_nat, ii_div, ii_nI]
  | k + 1, x, w, hx, N, hN => by
    obtain ⟨N, rfl⟩ : ∃ N', N = N' + 1 := ⟨N - 1, by omega⟩
    have r := fm_r h
    obtain ⟨v1, v2, v3, v4⟩ := hY x (by omega)
    have ed := db_5 (e := e) h (by omega) h2 (x := (C : Int) - x) (by omega) (by omega) (by omega)
    rw [← v3] at ed
    have en := num_x5 v1 v2 hN0
    have e9 : ((x : Int) + 1) = ((x + 1 : Nat) : Int) := by omega
    have ei : (121 * (i : Int) + x).toNat = 121 * i + x := by omega
    have es : II (C : Int) - II (x : Int) = II ((C : Int) - x) := ii_sub _ _
    obtain ⟨dy, d1, d2, d3⟩ := dys_m h s0 hse h2 hC1 hY hi hN0 hw (w35 := w35) k (x + 1) (upd w (121 * i + x) (II (Y x))) (by omega) N (by omega)
    refine ⟨dy, fun j h1 h3 => ?_, fun q hq => ?_, fun K37 => ?_⟩
    · by_cases c : j = x
      · subst c
        rw [d2 _ (by omega)]
        simp [upd]
      · exact d1 j (by omega) h3
    · rw [d2 _ (by omega)]
      have : q ≠ 121 * i + x := by omega
      simp [upd, this]
    · unfold f_X5_addBond_L172
      rw [es, ed]
      simp (disch := omega) only [true_or, or_true, gd_T, bd_e, jn_e, bi_e, gd_t, it_e, ie_e, if_true, if_false, ii_lit, ii_add, ii_sub, ii_mul, ii_neg, ii_lt, ii_le, ii_eq, ii_nat, ii_div, ii_nI, hw, en, ei, e9, d3]
theorem nx_m (hC1 : C ≤ 120) {i : Nat} (hi : i < 10) {w38 w40 : Nat → Int32} {td : Int} (t0 : 0 ≤ td) (t1 : td ≤ 18627) (hw : w38 4 = II i) (hw1 : w38 1 = II td) (hte : td < Y C) (hY : ∀ j, j ≤ C → w40 (121 * i + j) = II (Y j) ∧ 0 ≤ Y j ∧ Y j ≤ 18627) {K50 : Int32 → Option (Int32 × (Nat → Int32) × (Nat → Int32) × (Nat → Int32))} : ∀ (k x : Nat), x + (k + 1) = C → ∀ N : Nat, k + 1 ≤ N → f_X5_addBond_L221 w38 w40 K50 N (II x) = K50 (II (FB Y td (k + 1) x))
  | 0, x, hx, N, hN => by
    obtain ⟨N, rfl⟩ : ∃ N', N = N' + 1 := ⟨N - 1, by omega⟩
    obtain ⟨y1, y2, y3⟩ := hY (x + 1) (by omega)
    have hx : x + 1 = C := by omega
    subst hx
    have ei : (121 * (i : Int) + x + 1).toNat = 121 * i + (x + 1) := by omega
    unfold f_X5_addBond_L221 FB
    simp (disch := omega) only [true_or, or_true, gd_T, bd_e, jn_e, bi_e, gd_t, it_e, ie_e, if_true, if_false, ii_lit, ii_add, ii_sub, ii_mul, ii_neg, ii_lt, ii_le, ii_eq, ii_nat, ii_div, ii_nI, hw, hw1, ei, y1]
  | k + 1, x, hx, N, hN => by
    obtain ⟨N, rfl⟩ : ∃ N', N = N' + 1 := ⟨N - 1, by omega⟩
    obtain ⟨y1, y2, y3⟩ := hY (x + 1) (by omega)
    have ei : (121 * (i : Int) + x + 1).toNat = 121 * i + (x + 1) := by omega
    have e9 : ((x : Int) + 1) = ((x + 1 : Nat) : Int) := by omega
    have ih := nx_m hC1 hi t0 t1 hw hw1 hte hY (K50 := K50) k (x + 1) (by omega) N (by omega)
    unfold f_X5_addBond_L221 FB
    by_cases c : Y (x + 1) ≤ td
    · simp (disch := omega) only [true_or, or_true, gd_T, bd_e, jn_e, bi_e, gd_t, it_e, ie_e, if_true, if_false, ii_lit, ii_add, ii_sub, ii_mul, ii_neg, ii_lt, ii_le, ii_eq, ii_nat, ii_div, ii_nI, hw, hw1, ei, y1, e9, ih]
    · simp (disch := omega) only [true_or, or_true, gd_T, bd_e, jn_e, bi_e, gd_t, it_e, ie_e, if_true, if_false, ii_lit, ii_add, ii_sub, ii_mul, ii_neg, ii_lt, ii_le, ii_eq, ii_nat, ii_div, ii_nI, hw, hw1, ei, y1, e9]
end ADB
theorem it_k {β : Type} {c : Prop} {_ : Decidable c} (k : β) : (if c then k else k) = k := by
  by_cases h : c
  · exact if_pos h
  · exact if_neg h
theorem trm_c {p f m w : Int} (h : FM9 f m) (p0 : 0 ≤ p) (p1 : p ≤ 2000) (w0 : 0 ≤ w) (w1 : w ≤ 3) : f_X4_requireTerms (II p) (II f) (II w) = some (.inl ()) := by
  have r := fm_r h
  unfold f_X4_requireTerms f_X4_requireRate
  simp (disch := omega) only [true_or, or_true, gd_T, bd_e, jn_e, bi_e, gd_t, it_e, ie_e, if_true, if_false, ii_lit, ii_add, ii_sub, ii_mul, ii_neg, ii_lt, ii_le, ii_eq, ii_nat, ii_div, ii_nI, ex_i, fm_j h, it_k]
