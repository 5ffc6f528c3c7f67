/-! pure: digest agrees -/
section DGS
variable {td : Int} {nh : Nat} {hd : Nat → Int} {rt : Int} {X Y : Nat → Nat → Int} {g : SG} {μ : SM}
theorem dg_a (h : Inv9 td nh hd rt X Y g μ) {N : Nat} (hN : 10000 ≤ N) : ∀ (k j : Nat), j + k = 12 → ∀ (s : Int64) (n : Nat), k + 1 ≤ n → ∃ v : Int64, (∀ K3, f_X4_digest_L6 N g.1 g.2.1 g.2.2.2.1 g.2.2.2.2.1 g.2.2.2.2.2.1 g.2.2.2.2.2.2.1 g.2.2.2.2.2.2.2.1 g.2.2.2.2.2.2.2.2.1 g.2.2.2.2.2.2.2.2.2 K3 n s (II j) = K3 v) ∧ ∀ K3, f_X5_digest_L11 N μ.1 μ.2.1 μ.2.2.2.1 μ.2.2.2.2.1 μ.2.2.2.2.2 K3 n s (II j) = K3 v
  | 0, j, hj, s, n, hn => by
    obtain ⟨n, rfl⟩ : ∃ n', n = n' + 1 := ⟨n - 1, by omega⟩
    refine ⟨s, fun K3 => ?_, fun K3 => ?_⟩
    · unfold f_X4_digest_L6
      simp (disch := omega) only [true_or, or_true, gd_T, bd_e, jn_e, bi_e, gd_t, it_e, ie_e, if_true, if_false, ii_lit, ii_add, ii_sub, ii_mul, ii_neg, ii_lt, ii_le, ii_eq, ii_nat, ii_div, ii_nI]
    · unfold f_X5_digest_L11
      simp (disch := omega) only [true_or, or_true, gd_T, bd_e, jn_e, bi_e, gd_t, it_e, ie_e, if_true, if_false, ii_lit, ii_add, ii_sub, ii_mul, ii_neg, ii_lt, ii_le, ii_eq, ii_nat, ii_div, ii_nI]
  | k + 1, j, hj, s, n, hn => by
    obtain ⟨n, rfl⟩ : ∃ n', n = n' + 1 := ⟨n - 1, by omega⟩
    obtain ⟨-, -, ⟨hc, hm⟩, ⟨m1, m3, m4⟩, -, -⟩ := id h
    have e : ((j : Int) + 1) = ((j + 1 : Nat) : Int) := by omega
    obtain ⟨v, e1, e2⟩ := cnt_eq h (M := va_up μ.1 0 (II 0)) ((va_up_ne _ _ (by decide)).trans m4) ((va_up_ne _ _ (by decide)).trans m1) ((va_up_ne _ _ (by decide)).trans m3) ((va_up_ne _ _ (by decide)).trans hm.2.1) hN (w := j) (by omega) (by omega)
    obtain ⟨u, i1, i2⟩ := dg_a h hN k (j + 1) (by omega) (s * 31 + v) n (by omega)
    refine ⟨u, fun K3 => ?_, fun K3 => ?_⟩
    · unfold f_X4_digest_L6
      simp (disch := omega) only [true_or, or_true, gd_T, bd_e, jn_e, bi_e, gd_t, it_e, ie_e, if_true, if_false, ii_lit, ii_add, ii_sub, ii_mul, ii_neg, ii_lt, ii_le, ii_eq, ii_nat, ii_div, ii_nI, e1, e, i1]
    · unfold f_X5_digest_L11
      simp (disch := omega) only [true_or, or_true, gd_T, bd_e, jn_e, bi_e, gd_t, it_e, ie_e, if_true, if_false, ii_lit, ii_add, ii_sub, ii_mul, ii_neg, ii_lt, ii_le, ii_eq, ii_nat, ii_div, ii_nI, e2, e, i2]
theorem dg_h (h : Inv9 td nh hd rt X Y g μ) {N : Nat} (hN : 10000 ≤ N) : ∀ (k j : Nat), j + k = nh → ∀ (s : Int64) (n : Nat), k + 1 ≤ n → ∃ v : Int64, (∀ K3, f_X4_digest_L32 g.1 g.2.2.1 K3 n s (II j) = K3 v) ∧ ∀ K3, f_X5_digest_L37 μ.1 N μ.2.2.1 K3 n s (II j) = K3 v
  | 0, j, hj, s, n, hn => by
    obtain ⟨n, rfl⟩ : ∃ n', n = n' + 1 := ⟨n - 1, by omega⟩
    obtain ⟨-, ⟨k3, k4, k5, k7⟩, ⟨hc, hm⟩, -, -, -⟩ := id h
    have h30 := hc.1
    have m5 := hm.2.1
    refine ⟨s, fun K3 => ?_, fun K3 => ?_⟩
    · unfold f_X4_digest_L32
      simp (disch := omega) only [true_or, or_true, gd_T, bd_e, jn_e, bi_e, gd_t, it_e, ie_e, if_true, if_false, ii_lit, ii_add, ii_sub, ii_mul, ii_neg, ii_lt, ii_le, ii_eq, ii_nat, ii_div, ii_nI, k3]
    · unfold f_X5_digest_L37
      simp (disch := omega) only [true_or, or_true, gd_T, bd_e, jn_e, bi_e, gd_t, it_e, ie_e, if_true, if_false, ii_lit, ii_add, ii_sub, ii_mul, ii_neg, ii_lt, ii_le, ii_eq, ii_nat, ii_div, ii_nI, m5]
  | k + 1, j, hj, s, n, hn => by
    obtain ⟨n, rfl⟩ : ∃ n', n = n' + 1 := ⟨n - 1, by omega⟩
    obtain ⟨-, ⟨k3, k4, k5, k7⟩, ⟨hc, hm⟩, -, -, -⟩ := id h
    have h30 := hc.1
    have m5 := hm.2.1
    obtain ⟨c1, c2, c3⟩ := hc.2.1 j (by omega)
    obtain ⟨-, -, c4⟩ := hm.2.2 j (by omega)
    have b := dd_b c1 c2
    have e : ((j : Int) + 1) = ((j + 1 : Nat) : Int) := by omega
    have ed := dat_x5 c1 c2 (N := N) (by omega)
    have el := ii_toL (a := DD (hd j)) (by omega) (by omega)
    obtain ⟨u, i1, i2⟩ := dg_h h hN k (j + 1) (by omega) (s * 31 + LL (DD (hd j))) n (by omega)
    refine ⟨u, fun K3 => ?_, fun K3 => ?_⟩
    · unfold f_X4_digest_L32
      simp (disch := omega) only [true_or, or_true, gd_T, bd_e, jn_e, bi_e, gd_t, it_e, ie_e, if_true, if_false, ii_lit, ii_add, ii_sub, ii_mul, ii_neg, ii_lt, ii_le, ii_eq, ii_nat, ii_div, ii_nI, Int.toNat_natCast, k3, c3, el, e, i1]
    · unfold f_X5_digest_L37
      simp (disch := omega) only [true_or, or_true, gd_T, bd_e, jn_e, bi_e, gd_t, it_e, ie_e, if_true, if_false, ii_lit, ii_add, ii_sub, ii_mul, ii_neg, ii_lt, ii_le, ii_eq, ii_nat, ii_div, ii_nI, Int.toNat_natCast, m5, c4, ed, el, e, i2]
theorem dg_b {X Y : Nat → Int} {B S : Nat → Int32} {T : Nat → Int64} {n : Nat} {ds mof mdy : Nat → Int32} {i : Nat} (hW : WB X Y) (hC : CB X Y B S T n ds) (hM : MD X Y mof mdy i) {N : Nat} (hN : 10000 ≤ N) : ∀ (k j : Nat), j + k = 11 → ∀ (s : Int64) (f : Nat), k + 1 ≤ f → ∃ v : Int64, (∀ K3, f_X0_addTo_L6 B S n K3 f s (II j) = K3 v) ∧ ∀ K3, f_X5_digest_L81 N mof (II i) K3 f s (II j) = K3 v
  | 0, j, hj, s, f, hf => by
    obtain ⟨f, rfl⟩ : ∃ n', f = n' + 1 := ⟨f - 1, by omega⟩
    refine ⟨s, fun K3 => ?_, fun K3 => ?_⟩
    · unfold f_X0_addTo_L6
      simp (disch := omega) only [true_or, or_true, gd_T, bd_e, jn_e, bi_e, gd_t, it_e, ie_e, if_true, if_false, ii_lit, ii_add, ii_sub, ii_mul, ii_neg, ii_lt, ii_le, ii_eq, ii_nat, ii_div, ii_nI]
    · unfold f_X5_digest_L81
      simp (disch := omega) only [true_or, or_true, gd_T, bd_e, jn_e, bi_e, gd_t, it_e, ie_e, if_true, if_false, ii_lit, ii_add, ii_sub, ii_mul, ii_neg, ii_lt, ii_le, ii_eq, ii_nat, ii_div, ii_nI]
  | k + 1, j, hj, s, f, hf => by
    obtain ⟨f, rfl⟩ : ∃ n', f = n' + 1 := ⟨f - 1, by omega⟩
    have e : ((j : Int) + 1) = ((j + 1 : Nat) : Int) := by omega
    obtain ⟨v, e1, e2, -, -⟩ := tell_eq hW hC hM hN (w := j) (by omega) (by omega)
    obtain ⟨u, i1, i2⟩ := dg_b hW hC hM hN k (j + 1) (by omega) (s * 31 + (II v).toInt64) f (by omega)
    refine ⟨u, fun K3 => ?_, fun K3 => ?_⟩
    · unfold f_X0_addTo_L6
      simp (disch := omega) only [true_or, or_true, gd_T, bd_e, jn_e, bi_e, gd_t, it_e, ie_e, if_true, if_false, ii_lit, ii_add, ii_sub, ii_mul, ii_neg, ii_lt, ii_le, ii_eq, ii_nat, ii_div, ii_nI, e1, e, i1]
    · unfold f_X5_digest_L81
      simp (disch := omega) only [true_or, or_true, gd_T, bd_e, jn_e, bi_e, gd_t, it_e, ie_e, if_true, if_false, ii_lit, ii_add, ii_sub, ii_mul, ii_neg, ii_lt, ii_le, ii_eq, ii_nat, ii_div, ii_nI, e2, e, i2]
theorem dg_c {X Y : Nat → Int} {B S : Nat → Int32} {T : Nat → Int64} {n : Nat} {ds mof mdy : Nat → Int32} {i : Nat} (hW : WB X Y) (hC : CB X Y B S T n ds) (hM : MD X Y mof mdy i) {nh : Nat} {hd : Nat → Int} {hol M mhol : Nat → Int32} (hc : CH nh hd hol) (hm : MH nh hd M mhol) {N : Nat} (hN : 10000 ≤ N) : ∀ (k j : Nat), j + k = n → ∀ (s : Int64) (f : Nat), k + 1 ≤ f → ∃ v : Int64, f_X0_addTo_L52 n ds S T f s (II j) = some v ∧ ∀ K3, f_X5_digest_L129 mof (II i) N M mhol mdy K3 f s (II j) = K3 v
  | 0, j, hj, s, f, hf => by
    obtain ⟨f, rfl⟩ : ∃ n', f = n' + 1 := ⟨f - 1, by omega⟩
    have h6 := hW.2.1.2.2.2.1
    have hn := hC.1.1
    refine ⟨s, ?_, fun K3 => ?_⟩
    · unfold f_X0_addTo_L52
      simp (disch := omega) only [true_or, or_true, gd_T, bd_e, jn_e, bi_e, gd_t, it_e, ie_e, if_true, if_false, ii_lit, ii_add, ii_sub, ii_mul, ii_neg, ii_lt, ii_le, ii_eq, ii_nat, ii_div, ii_nI]
    · unfold f_X5_digest_L129
      simp (disch := omega) only [true_or, or_true, gd_T, bd_e, jn_e, bi_e, gd_t, it_e, ie_e, if_true, if_false, ii_lit, ii_add, ii_sub, ii_mul, ii_neg, ii_lt, ii_le, ii_eq, ii_nat, ii_div, ii_nI, own_6 hM]
  | k + 1, j, hj, s, f, hf => by
    obtain ⟨f, rfl⟩ : ∃ n', f = n' + 1 := ⟨f - 1, by omega⟩
    have h6 := hW.2.1.2.2.2.1
    have hn := hC.1.1
    have hy := wb_y hW (j := j + 1) (by omega)
    have b := dd_b hy.1 (show Y (j + 1) ≤ 18627 by omega)
    have cr := cp_r hW (j := j) (by omega) (F := 100000) (by omega) (by omega)
    have ec := cpn_c hC hW (j := j) (by omega) (F := 100000) (by omega) (by omega)
    have ed := hC.2.2 j (by omega)
    obtain ⟨v0, a0, -, -, -, b0⟩ := told_eq hW hC hM hc (mh_up (a := II 0) hm) hN (j := j) (by omega) (w := 0) (by omega) (by omega)
    obtain ⟨v3, -, -, -, a3, b3⟩ := told_eq hW hC hM hc (mh_up (a := II 0) hm) hN (j := j) (by omega) (w := 3) (by omega) (by omega)
    have a0 := a0 rfl
    have a3 := a3 rfl
    subst a0
    subst a3
    have e : ((j : Int) + 1) = ((j + 1 : Nat) : Int) := by omega
    have l0 := ii_toL (a := DD (Y (j + 1))) (by omega) (by omega)
    have l3 := ii_toL (a := CP X Y j 100000) (by omega) (by omega)
    have z : (100000 : Int64) = LL 100000 := ll_lit 100000
    obtain ⟨u, i1, i2⟩ := dg_c hW hC hM hc hm hN k (j + 1) (by omega) ((s * 31 + LL (DD (Y (j + 1)))) * 31 + LL (CP X Y j 100000)) f (by omega)
    refine ⟨u, ?_, fun K3 => ?_⟩
    · unfold f_X0_addTo_L52
      simp (disch := omega) only [true_or, or_true, gd_T, bd_e, jn_e, bi_e, gd_t, it_e, ie_e, if_true, if_false, ii_lit, ii_add, ii_sub, ii_mul, ii_neg, ii_lt, ii_le, ii_eq, ii_nat, ii_div, ii_nI, Int.toNat_natCast, z, ed, ec, l0, e, i1]
    · unfold f_X5_digest_L129
      simp (disch := omega) only [true_or, or_true, gd_T, bd_e, jn_e, bi_e, gd_t, it_e, ie_e, if_true, if_false, ii_lit, ii_add, ii_sub, ii_mul, ii_neg, ii_lt, ii_le, ii_eq, ii_nat, ii_div, ii_nI, own_6 hM, b0, b3, l0, l3, e, i2]
theorem dg_d {X Y : Nat → Int} {B S : Nat → Int32} {T : Nat → Int64} {n : Nat} {ds mof mdy : Nat → Int32} {i : Nat} (hW : WB X Y) (hC : CB X Y B S T n ds) (hM : MD X Y mof mdy i) {nh : Nat} {hd : Nat → Int} {hol M mhol : Nat → Int32} (hc : CH nh hd hol) (hm : MH nh hd M mhol) {td : Int} (t0 : 0 ≤ td) (t1 : td ≤ 18627) (m1 : M 1 = II td) {N : Nat} (hN : 10000 ≤ N) (s : Int64) : ∃ v : Int64, f_X0_addTo N B S T n ds s (II (DD td)) = some v ∧ ∀ K3, f_X5_digest_L81 N mof (II i) (fun (x27 : Int64) => (f_X5_accruedOn N mof mdy (II i) (M 1)).bind fun v33 : Int32 => bd ((x27 * 31) + v33.toInt64 : Int64) fun x34 : Int64 => f_X5_digest_L129 mof (II i) N M mhol mdy K3 N x34 (II 0)) N s (II 0) = K3 v := by
  have ez : II ((0 : Nat) : Int) = II 0 := rfl
  have h6 := hW.2.1
  have hn := hC.1.1
  obtain ⟨v1, a1, a2⟩ := dg_b hW hC hM hN 11 0 (by omega) s N (by omega)
  have ea := acc_c hC hW t0 t1 (N := N) (by omega)
  have em := acc_m hM hW t0 t1 (N := N) (by omega)
  have ar := ac_r hW (t := td) (F := 10 * X 5) (by omega) (by omega)
  have el : (II (if X 8 = 0 then AC X Y td (10 * X 5) else 0)).toInt64 = LL (if X 8 = 0 then AC X Y td (10 * X 5) else 0) := ii_toL (by split <;> omega) (by split <;> omega)
  generalize (if X 8 = 0 then AC X Y td (10 * X 5) else 0) = av at *
  obtain ⟨v2, c1, c2⟩ := dg_c hW hC hM hc hm hN n 0 (by omega) (v1 * 31 + LL av) N (by omega)
  rw [ez] at a1 a2 c1 c2
  refine ⟨v2, ?_, fun K3 => ?_⟩
  · unfold f_X0_addTo
    simp (disch := omega) only [true_or, or_true, gd_T, bd_e, jn_e, bi_e, gd_t, it_e, ie_e, if_true, if_false, ii_lit, ii_add, ii_sub, ii_mul, ii_neg, ii_lt, ii_le, ii_eq, ii_nat, ii_div, ii_nI, a1, ea, c1]
  · rw [a2]
    simp (disch := omega) only [true_or, or_true, gd_T, bd_e, jn_e, bi_e, gd_t, it_e, ie_e, if_true, if_false, ii_lit, ii_add, ii_sub, ii_mul, ii_neg, ii_lt, ii_le, ii_eq, ii_nat, ii_div, ii_nI, m1, em, el, c2]
theorem dgx_t {nb N0 : Nat} {bB bS : Nat → Nat → Int32} {bT : Nat → Nat → Int64} {bn : Nat → Nat} {bds : Nat → Nat → Int32} {K : Nat → Int32} {s : Int64} : ∀ (k j : Nat), j + k = 10 → nb ≤ j → ∀ N : Nat, k + 1 ≤ N → f_X4_digest_L81 nb N0 bB bS bT bn bds K N s (II j) = some s
  | 0, j, hj, hn, N, hN => by
    obtain ⟨N, rfl⟩ : ∃ N', N = N' + 1 := ⟨N - 1, by omega⟩
    unfold f_X4_digest_L81
    simp (disch := omega) only [true_or, or_true, gd_T, bd_e, jn_e, bi_e, gd_t, it_e, ie_e, if_true, if_false, ii_lit, ii_add, ii_sub, ii_mul, ii_neg, ii_lt, ii_le, ii_eq, ii_nat, ii_div, ii_nI]
  | k + 1, j, hj, hn, N, hN => by
    obtain ⟨N, rfl⟩ : ∃ N', N = N' + 1 := ⟨N - 1, by omega⟩
    have e : ((j : Int) + 1) = ((j + 1 : Nat) : Int) := by omega
    have ih := dgx_t (nb := nb) (N0 := N0) (bB := bB) (bS := bS) (bT := bT) (bn := bn) (bds := bds) (K := K) (s := s) k (j + 1) (by omega) (by omega) N (by omega)
    unfold f_X4_digest_L81
    simp (disch := omega) only [true_or, or_true, gd_T, bd_e, jn_e, bi_e, gd_t, it_e, ie_e, if_true, if_false, ii_lit, ii_add, ii_sub, ii_mul, ii_neg, ii_lt, ii_le, ii_eq, ii_nat, ii_div, ii_nI, Int.toNat_natCast, e, ih]
theorem dg_e (h : Inv9 td nh hd rt X Y g μ) {N : Nat} (hN : 10000 ≤ N) : ∀ (k j : Nat), j + k = g.2.2.2.2.1 → ∀ (s : Int64) (f : Nat), 20 ≤ f + j → ∃ v : Int64, f_X4_digest_L81 g.2.2.2.2.1 N g.2.2.2.2.2.1 g.2.2.2.2.2.2.1 g.2.2.2.2.2.2.2.1 g.2.2.2.2.2.2.2.2.1 g.2.2.2.2.2.2.2.2.2 g.1 f s (II j) = some v ∧ f_X5_digest_L70 μ.1 N μ.2.2.2.1 μ.2.2.2.2.1 μ.2.2.1 f s (II j) = some (v, va_up μ.1 0 (II 0)) := by
  obtain ⟨⟨t0, t1, r0, r1, hnb⟩, ⟨k3, k4, k5, k7⟩, ⟨hc, hm⟩, ⟨m1, m3, m4⟩, -, hB⟩ := id h
  intro k
  induction k with
  | zero =>
    intro j hj s f hf
    refine ⟨s, dgx_t (10 - j) j (by omega) (by omega) f (by omega), ?_⟩
    obtain ⟨f, rfl⟩ : ∃ n', f = n' + 1 := ⟨f - 1, by omega⟩
    unfold f_X5_digest_L70
    simp (disch := omega) only [true_or, or_true, gd_T, bd_e, jn_e, bi_e, gd_t, it_e, ie_e, if_true, if_false, ii_lit, ii_add, ii_sub, ii_mul, ii_neg, ii_lt, ii_le, ii_eq, ii_nat, ii_div, ii_nI, m4]
  | succ k ih =>
    intro j hj s f hf
    obtain ⟨f, rfl⟩ : ∃ n', f = n' + 1 := ⟨f - 1, by omega⟩
    obtain ⟨hW, hC, hM⟩ := hB j (by omega)
    have e : ((j : Int) + 1) = ((j + 1 : Nat) : Int) := by omega
    obtain ⟨v, a1, a2⟩ := dg_d hW hC hM hc hm t0 (show td ≤ 18627 by omega) m1 hN s
    obtain ⟨u, i1, i2⟩ := ih (j + 1) (by omega) v f (by omega)
    refine ⟨u, ?_, ?_⟩
    · unfold f_X4_digest_L81
      simp (disch := omega) only [true_or, or_true, gd_T, bd_e, jn_e, bi_e, gd_t, it_e, ie_e, if_true, if_false, ii_lit, ii_add, ii_sub, ii_mul, ii_neg, ii_lt, ii_le, ii_eq, ii_nat, ii_div, ii_nI, Int.toNat_natCast, k5, a1, e, i1]
    · unfold f_X5_digest_L70
      rw [m4, if_neg (show ¬ II (g.2.2.2.2.1 : Int) ≤ II (j : Int) by rw [ii_le (by omega) (by omega) (by omega) (by omega)]; omega)]
      refine (a2 _).trans ?_
      simp (disch := omega) only [true_or, or_true, gd_T, bd_e, jn_e, bi_e, gd_t, it_e, ie_e, if_true, if_false, ii_lit, ii_add, ii_sub, ii_mul, ii_neg, ii_lt, ii_le, ii_eq, ii_nat, ii_div, ii_nI, e, i2]
end DGS
theorem ok_digest {g : SG} {μ : SM} (hI : Inv g μ) {N : Nat} (hN : 10000 ≤ N) : ∃ r, f_X4_digest N g.1 g.2.1 g.2.2.1 g.2.2.2.1 g.2.2.2.2.1 g.2.2.2.2.2.1 g.2.2.2.2.2.2.1 g.2.2.2.2.2.2.2.1 g.2.2.2.2.2.2.2.2.1 g.2.2.2.2.2.2.2.2.2 = some r.1 ∧ q_digest N μ = some r ∧ Inv g r.2 := by
  obtain ⟨td, nh, hd, rt, X, Y, h9⟩ := id hI
  have hnb := h9.1.2.2.2.2
  have hnh := h9.2.2.1.1.1
  have ez : II ((0 : Nat) : Int) = II 0 := rfl
  obtain ⟨v1, a1, a2⟩ := dg_a h9 hN 12 0 (by omega) 647 N (by omega)
  obtain ⟨v2, b1, b2⟩ := dg_h h9 hN nh 0 (by omega) v1 N (by omega)
  obtain ⟨v3, c1, c2⟩ := dg_e h9 hN g.2.2.2.2.1 0 (by omega) v2 N (by omega)
  rw [ez] at a1 a2 b1 b2 c1 c2
  refine ⟨(v3, va_up μ.1 0 (II 0), μ.2), ?_, ?_, inv_M (M' := va_up μ.1 0 (II 0)) hI (up1 _ _)⟩
  · unfold f_X4_digest
    simp (disch := omega) only [true_or, or_true, gd_T, bd_e, jn_e, bi_e, gd_t, it_e, ie_e, if_true, if_false, ii_lit, ii_add, ii_sub, ii_mul, ii_neg, ii_lt, ii_le, ii_eq, ii_nat, ii_div, ii_nI, a1, b1, c1]
  · unfold q_digest f_X5_digest
    simp (disch := omega) only [true_or, or_true, gd_T, bd_e, jn_e, bi_e, gd_t, it_e, ie_e, if_true, if_false, ii_lit, ii_add, ii_sub, ii_mul, ii_neg, ii_lt, ii_le, ii_eq, ii_nat, ii_div, ii_nI, a2, b2, c2, mp_e]
