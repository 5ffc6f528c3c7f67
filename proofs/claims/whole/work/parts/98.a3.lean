/-! pure: the worth of the reference -/
section M11
variable {X Y : Nat → Int} {mof mdy : Nat → Int32} {i : Nat}
/-- an iteration's part behind its weight -/
theorem won_L (h : MD X Y mof mdy i) (hW : WB X Y) {y t : Int} (hy : 0 ≤ y) (hy1 : y ≤ 5001) (ht0 : 0 ≤ t) (ht1 : t ≤ 18627) {N : Nat} (hN : 200 ≤ N) {q : Nat} : ∀ (k j : Nat) (l w s : Int), ((j + k : Nat) : Int) = X 6 → q < j → 0 ≤ l → l ≤ 10000 → 0 ≤ w → w ≤ 1000000000 → 0 ≤ s → s ≤ 1200000 * j → ∀ N9 : Nat, k + 1 ≤ N9 → f_X5_worthOn_L34 mof (II i) N mdy (II q) (II y) (II t) (LL (10000 * X 3)) N9 (LL s) (LL w) (II l) (II j) = some (LL (WS X Y y k j l (w * (10000 * X 3) / (10000 * X 3 + y)) s))
  | 0, j, l, w, s, hj, hq, h1, h2, h3, h4, h5, h8, N9, hN9 => by
    obtain ⟨N9, rfl⟩ : ∃ N', N9 = N' + 1 := ⟨N9 - 1, by omega⟩
    have h6 := hW.2.1.2.2.2.1
    unfold f_X5_worthOn_L34 WS
    simp (disch := omega) only [bd_e, jn_e, bi_e, gd_t, it_e, ie_e, if_true, if_false, ii_lit, ii_add, ii_sub, ii_mul, ii_neg, ii_lt, ii_le, ii_eq, ii_nat, ii_div, ii_nI, ll_lit, ll_add, ll_sub, ll_mul, ll_neg, ll_div, ii_toL, ll_toI, lz_gt, lz_lt, lz_le, lz_ge, lz_eq, ll_lt, ll_le, ll_eq, own_6 h]
  | k + 1, j, l, w, s, hj, hq, h1, h2, h3, h4, h5, h8, N9, hN9 => by
    obtain ⟨N9, rfl⟩ : ∃ N', N9 = N' + 1 := ⟨N9 - 1, by omega⟩
    have h6 := hW.2.1.2.2.2.1
    have h11 := hW.2.2.1
    have r := sk_r hW (j := j) h1
    have wh := wh_r hW
    have a := ws_w hW h3 h4 hy
    have hjj : (j : Int) < X 6 := by omega
    have b := ws_p hW hjj h1 h2 a.2.2.1 a.2.2.2
    have cp := cp_r hW hjj (F := 10 * l) (by omega) (by omega)
    have e : ((j : Int) + 1) = ((j + 1 : Nat) : Int) := by omega
    obtain ⟨s1, s2⟩ := sk_su X Y j l
    unfold f_X5_worthOn_L34 WS
    by_cases c : (j : Int) = X 6 - 1
    · have hk : k = 0 := by omega
      have ih := won_L h hW hy hy1 ht0 ht1 hN (q := q) k (j + 1) 0 (w * (10000 * X 3) / (10000 * X 3 + y)) (s + PY X Y j l * (w * (10000 * X 3) / (10000 * X 3 + y)) / 1000000000) (by omega) (by omega) (by omega) (by omega) a.2.2.1 a.2.2.2 (by omega) (by omega) N9 (by omega)
      subst hk
      have eP : PY X Y j l = CP X Y j (10 * l) + 10 * l := by unfold PY; rw [if_pos c]
      rw [eP] at ih b ⊢
      have e0 : l - l = 0 := by omega
      unfold WS at ih ⊢
      simp (disch := omega) only [bd_e, jn_e, bi_e, gd_t, it_e, ie_e, if_true, if_false, ii_lit, ii_add, ii_sub, ii_mul, ii_neg, ii_lt, ii_le, ii_eq, ii_nat, ii_div, ii_nI, ll_lit, ll_add, ll_sub, ll_mul, ll_neg, ll_div, ii_toL, ll_toI, lz_gt, lz_lt, lz_le, lz_ge, lz_eq, ll_lt, ll_le, ll_eq, own_6 h, cpn_m h hW hjj (show 0 ≤ 10 * l by omega) (show 10 * l ≤ 100000 by omega) hN, e, e0, ih]
    · have ih := won_L h hW hy hy1 ht0 ht1 hN (q := q) k (j + 1) (l - SK X Y j l) (w * (10000 * X 3) / (10000 * X 3 + y)) (s + PY X Y j l * (w * (10000 * X 3) / (10000 * X 3 + y)) / 1000000000) (by omega) (by omega) (by omega) (by omega) a.2.2.1 a.2.2.2 (by omega) (by omega) N9 (by omega)
      have eP : PY X Y j l = CP X Y j (10 * l) + 10 * SK X Y j l := by unfold PY; rw [if_neg c]
      rw [eP] at ih b ⊢
      rcases snk_m h hW hjj with ⟨a1, a2⟩ | ⟨a1, a2⟩
      · have e1 := s1 a1
        by_cases c2 : X 11 < l
        · rw [if_neg (by omega)] at e1
          rw [e1] at ih b ⊢
          simp (disch := omega) only [bd_e, jn_e, bi_e, gd_t, it_e, ie_e, if_true, if_false, ii_lit, ii_add, ii_sub, ii_mul, ii_neg, ii_lt, ii_le, ii_eq, ii_nat, ii_div, ii_nI, ll_lit, ll_add, ll_sub, ll_mul, ll_neg, ll_div, ii_toL, ll_toI, lz_gt, lz_lt, lz_le, lz_ge, lz_eq, ll_lt, ll_le, ll_eq, own_6 h, own_11 h, a2, cpn_m h hW hjj (show 0 ≤ 10 * l by omega) (show 10 * l ≤ 100000 by omega) hN, e, ih]
        · have e3 : SK X Y j l = l := by
            by_cases c3 : l < X 11
            · rw [if_pos c3] at e1; exact e1
            · rw [if_neg c3] at e1; omega
          rw [e3] at ih b ⊢
          simp (disch := omega) only [bd_e, jn_e, bi_e, gd_t, it_e, ie_e, if_true, if_false, ii_lit, ii_add, ii_sub, ii_mul, ii_neg, ii_lt, ii_le, ii_eq, ii_nat, ii_div, ii_nI, ll_lit, ll_add, ll_sub, ll_mul, ll_neg, ll_div, ii_toL, ll_toI, lz_gt, lz_lt, lz_le, lz_ge, lz_eq, ll_lt, ll_le, ll_eq, own_6 h, own_11 h, a2, cpn_m h hW hjj (show 0 ≤ 10 * l by omega) (show 10 * l ≤ 100000 by omega) hN, e, ih]
      · have e1 := s2 a1
        rw [e1] at ih b ⊢
        simp (disch := omega) only [bd_e, jn_e, bi_e, gd_t, it_e, ie_e, if_true, if_false, ii_lit, ii_add, ii_sub, ii_mul, ii_neg, ii_lt, ii_le, ii_eq, ii_nat, ii_div, ii_nI, ll_lit, ll_add, ll_sub, ll_mul, ll_neg, ll_div, ii_toL, ll_toI, lz_gt, lz_lt, lz_le, lz_ge, lz_eq, ll_lt, ll_le, ll_eq, own_6 h, a2, cpn_m h hW hjj (show 0 ≤ 10 * l by omega) (show 10 * l ≤ 100000 by omega) hN, e, ih]
theorem won_m (h : MD X Y mof mdy i) (hW : WB X Y) {t l y : Int} (ht0 : 0 ≤ t) (ht1 : t ≤ 18567) (h1 : 0 ≤ l) (h2 : l ≤ 10000) (hy : 0 ≤ y) (hy1 : y ≤ 5001) {N : Nat} (hN : 300 ≤ N) : f_X5_worthOn N mof mdy (II i) (II t) (II l) (II y) = some (LL (WO X Y t l y)) := by
  have h6 := hW.2.1
  have h11 := hW.2.2.1
  have hw1 := hW.1
  have wh := wh_r hW
  obtain ⟨q1, q2, q3, q4⟩ := fb_n hW t
  have eb := beh_e h hW ht0 (show t ≤ 18627 by omega) (show 200 ≤ N by omega)
  unfold f_X5_worthOn WO
  generalize FB Y t (X 6).toNat 0 = q at *
  obtain ⟨N9, rfl⟩ : ∃ N', N = N' + 1 := ⟨N - 1, by omega⟩
  have hN9 : 200 ≤ N9 + 1 := by omega
  by_cases c2 : X 1 ≤ t
  · have := q3 c2
    rw [eb]
    unfold f_X5_worthOn_L34
    simp (disch := omega) only [bd_e, jn_e, bi_e, gd_t, it_e, ie_e, if_true, if_false, ii_lit, ii_add, ii_sub, ii_mul, ii_neg, ii_lt, ii_le, ii_eq, ii_nat, ii_div, ii_nI, ll_lit, ll_add, ll_sub, ll_mul, ll_neg, ll_div, ii_toL, ll_toI, lz_gt, lz_lt, lz_le, lz_ge, lz_eq, ll_lt, ll_le, ll_eq, own_6 h, own_3 h]
  · have a := q2 (by omega)
    have hq : (q : Int) < X 6 := by omega
    have yy := wb_y hW (j := q + 1) (by omega)
    have w := w0_r (Y := Y) (t := t) (y := y) (j := q) hy hy1 (by omega) (by omega) ht0
    obtain ⟨k, hk⟩ : ∃ k, (X 6).toNat - q = k + 1 := ⟨(X 6).toNat - q - 1, by omega⟩
    have r := sk_r hW (j := q) h1
    have b := ws_p hW hq h1 h2 w.2.2.1 w.2.2.2
    have cp := cp_r hW hq (F := 10 * l) (by omega) (by omega)
    have e : ((q : Int) + 1) = ((q + 1 : Nat) : Int) := by omega
    obtain ⟨s1, s2⟩ := sk_su X Y q l
    obtain ⟨w9, hw9⟩ : ∃ w9, w9 = 3650000000000000 / (3650000 + y * (Y (q + 1) - t)) := ⟨_, rfl⟩
    have eW : W0 Y t y q = w9 := hw9.symm
    have ec := cd_k h hW (j := q) (by omega)
    rw [eW] at w b
    rw [eb, hk, eW]
    unfold f_X5_worthOn_L34 WS
    have ez : (0 : Int) + 0 = 0 := rfl
    by_cases c : (q : Int) = X 6 - 1
    · have hk0 : k = 0 := by omega
      have ih := won_L h hW hy hy1 ht0 (show t ≤ 18627 by omega) hN9 (q := q) k (q + 1) 0 w9 (0 + PY X Y q l * w9 / 1000000000) (by omega) (by omega) (by omega) (by omega) w.2.2.1 w.2.2.2 (by omega) (by omega) N9 (by omega)
      subst hk0
      have eP : PY X Y q l = CP X Y q (10 * l) + 10 * l := by unfold PY; rw [if_pos c]
      rw [eP] at ih b ⊢
      have e0 : l - l = 0 := by omega
      unfold WS at ih ⊢
      simp (disch := omega) only [bd_e, jn_e, bi_e, gd_t, it_e, ie_e, if_true, if_false, ii_lit, ii_add, ii_sub, ii_mul, ii_neg, ii_lt, ii_le, ii_eq, ii_nat, ii_div, ii_nI, ll_lit, ll_add, ll_sub, ll_mul, ll_neg, ll_div, ii_toL, ll_toI, lz_gt, lz_lt, lz_le, lz_ge, lz_eq, ll_lt, ll_le, ll_eq, own_6 h, own_3 h, ec, cpn_m h hW hq (show 0 ≤ 10 * l by omega) (show 10 * l ≤ 100000 by omega) hN9, ← hw9, e, e0, ih]
    · have ih := won_L h hW hy hy1 ht0 (show t ≤ 18627 by omega) hN9 (q := q) k (q + 1) (l - SK X Y q l) w9 (0 + PY X Y q l * w9 / 1000000000) (by omega) (by omega) (by omega) (by omega) w.2.2.1 w.2.2.2 (by omega) (by omega) N9 (by omega)
      have eP : PY X Y q l = CP X Y q (10 * l) + 10 * SK X Y q l := by unfold PY; rw [if_neg c]
      rw [eP] at ih b ⊢
      rcases snk_m h hW hq with ⟨a1, a2⟩ | ⟨a1, a2⟩
      · have e1 := s1 a1
        by_cases c3 : X 11 < l
        · rw [if_neg (by omega)] at e1
          rw [e1] at ih b ⊢
          simp (disch := omega) only [bd_e, jn_e, bi_e, gd_t, it_e, ie_e, if_true, if_false, ii_lit, ii_add, ii_sub, ii_mul, ii_neg, ii_lt, ii_le, ii_eq, ii_nat, ii_div, ii_nI, ll_lit, ll_add, ll_sub, ll_mul, ll_neg, ll_div, ii_toL, ll_toI, lz_gt, lz_lt, lz_le, lz_ge, lz_eq, ll_lt, ll_le, ll_eq, own_6 h, own_3 h, own_11 h, ec, a2, cpn_m h hW hq (show 0 ≤ 10 * l by omega) (show 10 * l ≤ 100000 by omega) hN9, ← hw9, e, ih]
        · have e3 : SK X Y q l = l := by
            by_cases c4 : l < X 11
            · rw [if_pos c4] at e1; exact e1
            · rw [if_neg c4] at e1; omega
          rw [e3] at ih b ⊢
          simp (disch := omega) only [bd_e, jn_e, bi_e, gd_t, it_e, ie_e, if_true, if_false, ii_lit, ii_add, ii_sub, ii_mul, ii_neg, ii_lt, ii_le, ii_eq, ii_nat, ii_div, ii_nI, ll_lit, ll_add, ll_sub, ll_mul, ll_neg, ll_div, ii_toL, ll_toI, lz_gt, lz_lt, lz_le, lz_ge, lz_eq, ll_lt, ll_le, ll_eq, own_6 h, own_3 h, own_11 h, ec, a2, cpn_m h hW hq (show 0 ≤ 10 * l by omega) (show 10 * l ≤ 100000 by omega) hN9, ← hw9, e, ih]
      · have e1 := s2 a1
        rw [e1] at ih b ⊢
        simp (disch := omega) only [bd_e, jn_e, bi_e, gd_t, it_e, ie_e, if_true, if_false, ii_lit, ii_add, ii_sub, ii_mul, ii_neg, ii_lt, ii_le, ii_eq, ii_nat, ii_div, ii_nI, ll_lit, ll_add, ll_sub, ll_mul, ll_neg, ll_div, ii_toL, ll_toI, lz_gt, lz_lt, lz_le, lz_ge, lz_eq, ll_lt, ll_le, ll_eq, own_6 h, own_3 h, ec, a2, cpn_m h hW hq (show 0 ≤ 10 * l by omega) (show 10 * l ≤ 100000 by omega) hN9, ← hw9, e, ih]
end M11
