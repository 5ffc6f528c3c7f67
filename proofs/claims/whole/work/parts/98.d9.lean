/-! pure: looks, up to today, of one bond and of all -/
section LKU
variable {X Y : Nat → Int} {B S : Nat → Int32} {T : Nat → Int64} {n : Nat} {ds mof mdy : Nat → Int32} {i : Nat} {rt td : Int}
theorem lup_J {M : Nat → Int32} (t0 : 0 ≤ td) (t1 : td ≤ 18627) (m1 : M 1 = II td) (m3 : M 3 = II rt) (r0 : 0 ≤ rt) (r1 : rt ≤ 2000) {N : Nat} (hN : 300 ≤ N) : ∀ (k : Nat) (X : Nat → Int) (B mof : Nat → Int32) (j : Nat), j + k = n → WB X Y → CB X Y B S T n ds → MD X Y mof mdy i → X 7 = j → ∀ (LG pd : Nat → Int64), (∀ k, k < 4 → LG k = pd k) → ∀ (mc : Int64) (f : Nat), k + 1 ≤ f → ∃ X' B' LG' w' pd' d, f_X0_lookUpTo_L6 n ds (II (DD td)) N S T (II rt) (fun (w6 : Nat → Int32) (w7 : Nat → Int64) => some (w6, w7)) (fun (w9 : Nat → Int32) (w10 : Nat → Int64) => some (w9, w10)) f (II j) B LG = some (B', LG') ∧ (∀ x K41, f_X5_pass_L91 (II i) mdy N K41 f x M mc mof pd = K41 (x + d) M (mc + d) w' pd') ∧ (∀ k, k < 4 → LG' k = pd' k) ∧ SL9 LG' = SL9 LG + d ∧ WB X' Y ∧ CB X' Y B' S T n ds ∧ MD X' Y w' mdy i ∧ (∀ q, (q < 14 * i ∨ 14 * i + 14 ≤ q) → w' q = mof q) := by
  intro k
  induction k with
  | zero =>
    intro X B mof j hj hW hC hM h7 LG pd hL mc f hf
    obtain ⟨f, rfl⟩ : ∃ f', f = f' + 1 := ⟨f - 1, by omega⟩
    have hn := hC.1.1
    have h9 := hW.2.1
    have h8 : X 8 ≠ 0 := fun hh => by have := hW.2.2.2.2.1 hh; omega
    have th := thr_m hM hW
    rw [if_neg h8] at th
    refine ⟨X, B, LG, mof, pd, 0, ?_, fun x K41 => ?_, hL, (Int64.add_zero _).symm, hW, hC, hM, fun q _ => rfl⟩
    · unfold f_X0_lookUpTo_L6
      simp (disch := omega) only [true_or, or_true, gd_T, bd_e, jn_e, bi_e, gd_t, it_e, ie_e, if_true, if_false, ii_lit, ii_add, ii_sub, ii_mul, ii_neg, ii_lt, ii_le, ii_eq, ii_nat, ii_div, ii_nI]
    · unfold f_X5_pass_L91
      simp (disch := omega) only [true_or, or_true, gd_T, bd_e, jn_e, bi_e, gd_t, it_e, ie_e, if_true, if_false, ii_lit, ii_add, ii_sub, ii_mul, ii_neg, ii_lt, ii_le, ii_eq, ii_nat, ii_div, ii_nI, th]
      rw [Int64.add_zero, Int64.add_zero]
  | succ k ih =>
    intro X B mof j hj hW hC hM h7 LG pd hL mc f hf
    obtain ⟨f, rfl⟩ : ∃ f', f = f' + 1 := ⟨f - 1, by omega⟩
    have hn := hC.1.1
    have h9 := hW.2.1
    have th := thr_m hM hW
    have gc := gone_c hC hW
    have bt := dd_b t0 t1
    by_cases c8 : X 8 = 0
    case neg =>
      rw [if_neg c8] at th gc
      refine ⟨X, B, LG, mof, pd, 0, ?_, fun x K41 => ?_, hL, (Int64.add_zero _).symm, hW, hC, hM, fun q _ => rfl⟩
      · unfold f_X0_lookUpTo_L6
        simp (disch := omega) only [true_or, or_true, gd_T, bd_e, jn_e, bi_e, gd_t, it_e, ie_e, if_true, if_false, ii_lit, ii_add, ii_sub, ii_mul, ii_neg, ii_lt, ii_le, ii_eq, ii_nat, ii_div, ii_nI, gc]
      · unfold f_X5_pass_L91
        simp (disch := omega) only [true_or, or_true, gd_T, bd_e, jn_e, bi_e, gd_t, it_e, ie_e, if_true, if_false, ii_lit, ii_add, ii_sub, ii_mul, ii_neg, ii_lt, ii_le, ii_eq, ii_nat, ii_div, ii_nI, th]
        rw [Int64.add_zero, Int64.add_zero]
    rw [if_pos c8] at th gc
    have y1 := wb_y hW (j := j + 1) (by omega)
    have by1 := dd_b y1.1 (show Y (j + 1) ≤ 18627 by omega)
    have ed := hC.2.2 j (by omega)
    have el := dd_le_iff y1.1 (show Y (j + 1) ≤ 18627 by omega) t0 t1
    have o7 : f_X5_own mof (II i) (II 7) = some (II j) := (own_7 hM).trans (by rw [h7])
    have cd := cd_k hM hW (j := j) (by omega)
    by_cases cy : Y (j + 1) ≤ td
    case neg =>
      refine ⟨X, B, LG, mof, pd, 0, ?_, fun x K41 => ?_, hL, (Int64.add_zero _).symm, hW, hC, hM, fun q _ => rfl⟩
      · unfold f_X0_lookUpTo_L6
        simp (disch := omega) only [true_or, or_true, gd_T, bd_e, jn_e, bi_e, gd_t, it_e, ie_e, if_true, if_false, ii_lit, ii_add, ii_sub, ii_mul, ii_neg, ii_lt, ii_le, ii_eq, ii_nat, ii_div, ii_nI, gc, ed, el, Int.toNat_natCast]
      · unfold f_X5_pass_L91
        simp (disch := omega) only [true_or, or_true, gd_T, bd_e, jn_e, bi_e, gd_t, it_e, ie_e, if_true, if_false, ii_lit, ii_add, ii_sub, ii_mul, ii_neg, ii_lt, ii_le, ii_eq, ii_nat, ii_div, ii_nI, th, o7, cd, m1]
        rw [Int64.add_zero, Int64.add_zero]
    obtain ⟨X1, B1, L1, w1, p1, d1, a1, a2, a3, a4, a5, a6, a7, a8, a9, a10⟩ := look_J hW hC hM (j := j) (by omega) h7 c8 m3 r0 r1 hN hL mc
    obtain ⟨X2, B2, L2, w2, p2, d2, b1, b2, b3, b4, b5, b6, b7, b8⟩ := ih X1 B1 w1 (j + 1) (by omega) a5 a6 a7 (by rw [a9]; rfl) L1 p1 a3 (mc + d1) f (by omega)
    have e9 : ((j : Int) + 1) = ((j + 1 : Nat) : Int) := by omega
    refine ⟨X2, B2, L2, w2, p2, d1 + d2, ?_, fun x K41 => ?_, b3, ?_, b5, b6, b7, fun q hq => (b8 q hq).trans (a8 q hq)⟩
    · unfold f_X0_lookUpTo_L6
      simp (disch := omega) only [true_or, or_true, gd_T, bd_e, jn_e, bi_e, gd_t, it_e, ie_e, if_true, if_false, ii_lit, ii_add, ii_sub, ii_mul, ii_neg, ii_lt, ii_le, ii_eq, ii_nat, ii_div, ii_nI, gc, ed, el, Int.toNat_natCast, a1, e9, b1]
    · unfold f_X5_pass_L91
      simp (disch := omega) only [true_or, or_true, gd_T, bd_e, jn_e, bi_e, gd_t, it_e, ie_e, if_true, if_false, ii_lit, ii_add, ii_sub, ii_mul, ii_neg, ii_lt, ii_le, ii_eq, ii_nat, ii_div, ii_nI, th, o7, cd, m1, a2]
      rw [b2, Int64.add_assoc, Int64.add_assoc]
    · rw [b4, a4, Int64.add_assoc]
end LKU
/-- all bonds, as both hold them -/
def BS9 (nb : Nat) (X Y : Nat → Nat → Int) (bB bS : Nat → Nat → Int32) (bT : Nat → Nat → Int64) (bn : Nat → Nat) (bds : Nat → Nat → Int32) (mof mdy : Nat → Int32) : Prop := ∀ i, i < nb → WB (X i) (Y i) ∧ CB (X i) (Y i) (bB i) (bS i) (bT i) (bn i) (bds i) ∧ MD (X i) (Y i) mof mdy i
theorem md_f {X Y : Nat → Int} {mof mdy w : Nat → Int32} {i j : Nat} (h : MD X Y mof mdy j) (hij : j ≠ i) (hw : ∀ q, (q < 14 * i ∨ 14 * i + 14 ≤ q) → w q = mof q) : MD X Y w mdy j :=
  ⟨h.1, fun k hk => (hw _ (by omega)).trans (h.2.1 k hk), h.2.2⟩
section LAB
variable {nb : Nat} {Y : Nat → Nat → Int} {bS : Nat → Nat → Int32} {bT : Nat → Nat → Int64} {bn : Nat → Nat} {bds : Nat → Nat → Int32} {mdy K M : Nat → Int32} {rt td : Int}
theorem lab_t {N0 : Nat} {K4 : (Nat → Int64) → (Nat → Nat → Int32) → Option ((Nat → Int64) × (Nat → Nat → Int32))} {L : Nat → Int64} {bB : Nat → Nat → Int32} : ∀ (k j : Nat), j + k = 10 → nb ≤ j → ∀ N : Nat, k + 1 ≤ N → f_X4_lookAtBonds_L10 nb N0 bS bT bn bds K K4 N (II j) L bB = K4 L bB
  | 0, j, hj, hn, N, hN => by
    obtain ⟨N, rfl⟩ : ∃ N', N = N' + 1 := ⟨N - 1, by omega⟩
    unfold f_X4_lookAtBonds_L10
    simp (disch := omega) only [true_or, or_true, gd_T, bd_e, jn_e, bi_e, gd_t, it_e, ie_e, if_true, if_false, ii_lit, ii_add, ii_sub, ii_mul, ii_neg, ii_lt, ii_le, ii_eq, ii_nat, ii_div, ii_nI]
  | k + 1, j, hj, hn, N, hN => by
    obtain ⟨N, rfl⟩ : ∃ N', N = N' + 1 := ⟨N - 1, by omega⟩
    have e : ((j : Int) + 1) = ((j + 1 : Nat) : Int) := by omega
    have ih := lab_t (N0 := N0) (K4 := K4) (L := L) (bB := bB) k (j + 1) (by omega) (by omega) N (by omega)
    unfold f_X4_lookAtBonds_L10
    simp (disch := omega) only [true_or, or_true, gd_T, bd_e, jn_e, bi_e, gd_t, it_e, ie_e, if_true, if_false, ii_lit, ii_add, ii_sub, ii_mul, ii_neg, ii_lt, ii_le, ii_eq, ii_nat, ii_div, ii_nI, Int.toNat_natCast, e, ih]
theorem lab_J (t0 : 0 ≤ td) (t1 : td ≤ 18627) (k5 : K 5 = II (DD td)) (k7 : K 7 = II rt) (m1 : M 1 = II td) (m3 : M 3 = II rt) (m4 : M 4 = II nb) (hnb : nb ≤ 10) (r0 : 0 ≤ rt) (r1 : rt ≤ 2000) {N : Nat} (hN : 300 ≤ N) : ∀ (k j : Nat), j + k = nb → ∀ (X : Nat → Nat → Int) (bB : Nat → Nat → Int32) (mof : Nat → Int32), BS9 nb X Y bB bS bT bn bds mof mdy → ∀ (LG pd : Nat → Int64), (∀ k, k < 4 → LG k = pd k) → ∀ (mc : Int64) (f : Nat), 20 ≤ f + j → ∃ X' bB' LG' w' pd' d, (∀ K4, f_X4_lookAtBonds_L10 nb N bS bT bn bds K K4 f (II j) LG bB = K4 LG' bB') ∧ (∀ x K28, f_X5_pass_L82 mdy N K28 f x (II j) M mc mof pd = K28 (x + d) M (mc + d) w' pd') ∧ (∀ k, k < 4 → LG' k = pd' k) ∧ SL9 LG' = SL9 LG + d ∧ BS9 nb X' Y bB' bS bT bn bds w' mdy := by
  intro k
  induction k with
  | zero =>
    intro j hj X bB mof hB LG pd hL mc f hf
    refine ⟨X, bB, LG, mof, pd, 0, fun K4 => lab_t (10 - j) j (by omega) (by omega) f (by omega), fun x K28 => ?_, hL, (Int64.add_zero _).symm, hB⟩
    obtain ⟨f, rfl⟩ : ∃ f', f = f' + 1 := ⟨f - 1, by omega⟩
    unfold f_X5_pass_L82
    simp (disch := omega) only [true_or, or_true, gd_T, bd_e, jn_e, bi_e, gd_t, it_e, ie_e, if_true, if_false, ii_lit, ii_add, ii_sub, ii_mul, ii_neg, ii_lt, ii_le, ii_eq, ii_nat, ii_div, ii_nI, m4]
    rw [Int64.add_zero, Int64.add_zero]
  | succ k ih =>
    intro j hj X bB mof hB LG pd hL mc f hf
    obtain ⟨f, rfl⟩ : ∃ f', f = f' + 1 := ⟨f - 1, by omega⟩
    obtain ⟨hW, hC, hM⟩ := hB j (by omega)
    have h9 := hW.2.1
    have hn := hC.1.1
    have b3 := hC.1.2.2.2.1
    have e7 : X j 7 = (((X j 7).toNat : Nat) : Int) := by omega
    obtain ⟨X1, B1, L1, w1, p1, d1, a1, a2, a3, a4, a5, a6, a7, a8⟩ := lup_J (i := j) t0 t1 m1 m3 r0 r1 hN (bn j - (X j 7).toNat) (X j) (bB j) mof (X j 7).toNat (by omega) hW hC hM e7 LG pd hL mc N (by omega)
    rw [← e7] at a1
    have hB1 : BS9 nb (va_up X j X1) Y (va_up bB j B1) bS bT bn bds w1 mdy := by
      intro i hi
      by_cases c : i = j
      · subst c
        rw [va_up_self, va_up_self]
        exact ⟨a5, a6, a7⟩
      · rw [va_up_ne _ _ c, va_up_ne _ _ c]
        obtain ⟨u1, u2, u3⟩ := hB i hi
        exact ⟨u1, u2, md_f u3 c a8⟩
    obtain ⟨X2, B2, L2, w2, p2, d2, c1, c2, c3, c4, c5⟩ := ih (j + 1) (by omega) _ _ _ hB1 L1 p1 a3 (mc + d1) f (by omega)
    have e9 : ((j : Int) + 1) = ((j + 1 : Nat) : Int) := by omega
    refine ⟨X2, B2, L2, w2, p2, d1 + d2, fun K4 => ?_, fun x K28 => ?_, c3, ?_, c5⟩
    · unfold f_X4_lookAtBonds_L10 f_X0_lookUpTo
      simp (disch := omega) only [true_or, or_true, gd_T, bd_e, jn_e, bi_e, gd_t, it_e, ie_e, if_true, if_false, ii_lit, ii_add, ii_sub, ii_mul, ii_neg, ii_lt, ii_le, ii_eq, ii_nat, ii_div, ii_nI, Int.toNat_natCast, k5, k7, b3, a1, e9, c1]
    · unfold f_X5_pass_L82
      simp (disch := omega) only [true_or, or_true, gd_T, bd_e, jn_e, bi_e, gd_t, it_e, ie_e, if_true, if_false, ii_lit, ii_add, ii_sub, ii_mul, ii_neg, ii_lt, ii_le, ii_eq, ii_nat, ii_div, ii_nI, m4]
      rw [a2]
      simp (disch := omega) only [true_or, or_true, gd_T, bd_e, jn_e, bi_e, gd_t, it_e, ie_e, if_true, if_false, ii_lit, ii_add, ii_sub, ii_mul, ii_neg, ii_lt, ii_le, ii_eq, ii_nat, ii_div, ii_nI, e9]
      rw [c2, Int64.add_assoc, Int64.add_assoc]
    · rw [c4, a4, Int64.add_assoc]
end LAB
