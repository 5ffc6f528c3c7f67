/-! pure: buy, sell -/
theorem rwd {td : Int} (t0 : 0 ≤ td) (t1 : td ≤ 18567) {nh : Nat} {hd : Nat → Int} {hol M mhol K : Nat → Int32} (hc : CH nh hd hol) (hm : MH nh hd M mhol) (k5 : K 5 = II (DD td)) {N : Nat} (hN : 10000 ≤ N) : (f_X4_requireWorkingDay N K hol = some (.inl ()) ∧ f_X5_isWorking N M mhol (II td) = some (II 1)) ∨ (f_X4_requireWorkingDay N K hol = some (.inr "java/lang/IllegalStateException") ∧ f_X5_isWorking N M mhol (II td) = some (II 0)) := by
  unfold f_X4_requireWorkingDay
  rw [k5]
  rcases wk_c hc (n := td) t0 (by omega) (show 200 ≤ N by omega) with ⟨a, b⟩ | ⟨a, b⟩
  · rcases wk_m hm (n := td) t0 (by omega) (show 200 ≤ N by omega) with ⟨a2, b2⟩ | ⟨a2, b2⟩
    · left; refine ⟨?_, b2⟩
      simp (disch := omega) only [true_or, or_true, gd_T, bd_e, jn_e, bi_e, gd_t, it_e, ie_e, if_true, if_false, ii_lit, ii_add, ii_sub, ii_mul, ii_neg, ii_lt, ii_le, ii_eq, ii_nat, ii_div, ii_nI, num_x1 t0 (show td ≤ 18627 by omega), b]
    · exact absurd a a2
  · rcases wk_m hm (n := td) t0 (by omega) (show 200 ≤ N by omega) with ⟨a2, b2⟩ | ⟨a2, b2⟩
    · exact absurd a2 a
    · right; refine ⟨?_, b2⟩
      simp (disch := omega) only [true_or, or_true, gd_T, bd_e, jn_e, bi_e, gd_t, it_e, ie_e, if_true, if_false, ii_lit, ii_add, ii_sub, ii_mul, ii_neg, ii_lt, ii_le, ii_eq, ii_nat, ii_div, ii_nI, num_x1 t0 (show td ≤ 18627 by omega), b]
theorem rpc {p : Int} (h1 : -2147483648 ≤ p) (h2 : p < 2147483648) : (1 ≤ p ∧ p ≤ 1000 ∧ f_X4_requirePieces (II p) = some (.inl ())) ∨ (¬ (1 ≤ p ∧ p ≤ 1000) ∧ f_X4_requirePieces (II p) = some (.inr "java/lang/IllegalArgumentException")) := by
  unfold f_X4_requirePieces
  by_cases c : p < 1
  · right; refine ⟨by omega, ?_⟩
    simp (disch := omega) only [true_or, or_true, gd_T, bd_e, jn_e, bi_e, gd_t, it_e, ie_e, if_true, if_false, ii_lit, ii_add, ii_sub, ii_mul, ii_neg, ii_lt, ii_le, ii_eq, ii_nat, ii_div, ii_nI]
  · by_cases c2 : p ≤ 1000
    · left; refine ⟨by omega, c2, ?_⟩
      simp (disch := omega) only [true_or, or_true, gd_T, bd_e, jn_e, bi_e, gd_t, it_e, ie_e, if_true, if_false, ii_lit, ii_add, ii_sub, ii_mul, ii_neg, ii_lt, ii_le, ii_eq, ii_nat, ii_div, ii_nI]
    · right; refine ⟨by omega, ?_⟩
      simp (disch := omega) only [true_or, or_true, gd_T, bd_e, jn_e, bi_e, gd_t, it_e, ie_e, if_true, if_false, ii_lit, ii_add, ii_sub, ii_mul, ii_neg, ii_lt, ii_le, ii_eq, ii_nat, ii_div, ii_nI]
theorem rpr {p : Int} (h1 : -2147483648 ≤ p) (h2 : p < 2147483648) : (1 ≤ p ∧ p ≤ 30000 ∧ f_X4_requirePrice (II p) = some (.inl ())) ∨ (¬ (1 ≤ p ∧ p ≤ 30000) ∧ f_X4_requirePrice (II p) = some (.inr "java/lang/IllegalArgumentException")) := by
  unfold f_X4_requirePrice
  by_cases c : p < 1
  · right; refine ⟨by omega, ?_⟩
    simp (disch := omega) only [true_or, or_true, gd_T, bd_e, jn_e, bi_e, gd_t, it_e, ie_e, if_true, if_false, ii_lit, ii_add, ii_sub, ii_mul, ii_neg, ii_lt, ii_le, ii_eq, ii_nat, ii_div, ii_nI]
  · by_cases c2 : p ≤ 30000
    · left; refine ⟨by omega, c2, ?_⟩
      simp (disch := omega) only [true_or, or_true, gd_T, bd_e, jn_e, bi_e, gd_t, it_e, ie_e, if_true, if_false, ii_lit, ii_add, ii_sub, ii_mul, ii_neg, ii_lt, ii_le, ii_eq, ii_nat, ii_div, ii_nI]
    · right; refine ⟨by omega, ?_⟩
      simp (disch := omega) only [true_or, or_true, gd_T, bd_e, jn_e, bi_e, gd_t, it_e, ie_e, if_true, if_false, ii_lit, ii_add, ii_sub, ii_mul, ii_neg, ii_lt, ii_le, ii_eq, ii_nat, ii_div, ii_nI]
theorem wb_9 {X Y : Nat → Int} (hW : WB X Y) {v : Int} (h0 : 0 ≤ v) (h1 : v ≤ 1000) (h8 : X 8 = 0) : WB (va_up X 9 v) Y := by
  unfold WB at hW ⊢
  have hk : ∀ k, k ≠ 9 → va_up X 9 v k = X k := fun k a => va_up_ne _ _ a
  simp only [hk 0 (by decide), hk 1 (by decide), hk 2 (by decide), hk 3 (by decide), hk 4 (by decide), hk 5 (by decide), hk 6 (by decide), hk 7 (by decide), hk 8 (by decide), hk 10 (by decide), hk 11 (by decide), hk 12 (by decide), hk 13 (by decide), va_up_self]
  refine ⟨hW.1, ?_, hW.2.2.1, hW.2.2.2.1, hW.2.2.2.2.1, fun h => absurd h8 h⟩
  have := hW.2.1
  omega
theorem cb_9 {X Y : Nat → Int} {B S : Nat → Int32} {T : Nat → Int64} {n : Nat} {ds : Nat → Int32} (hC : CB X Y B S T n ds) (v : Int) : CB (va_up X 9 v) Y (va_up B 4 (II v)) S T n ds := by
  have hk : ∀ k, k ≠ 9 → va_up X 9 v k = X k := fun k a => va_up_ne _ _ a
  obtain ⟨⟨hn, b1, b2, b3, b4, b6, b8, b5, b7⟩, -⟩ := id hC
  refine cb_S hC (fun k hk9 => hk k (by omega)) ?_
  simp only [hk 5 (by decide), hk 6 (by decide), hk 7 (by decide), hk 8 (by decide), hk 10 (by decide), hk 11 (by decide), hk 12 (by decide), hk 13 (by decide), va_up_self]
  refine ⟨hn, ?_, ?_, ?_, ?_, ?_, ?_, ?_, ?_⟩ <;> simp [va_up, b1, b2, b3, b6, b8] <;> assumption
theorem iss_c {X Y : Nat → Int} {B S : Nat → Int32} {T : Nat → Int64} {n : Nat} {ds : Nat → Int32} (hC : CB X Y B S T n ds) (hW : WB X Y) {t : Int} (t0 : 0 ≤ t) (t1 : t ≤ 18627) : f_X0_isIssued S (II (DD t)) = some (if t < X 0 then II 0 else II 1) := by
  have hw1 := hW.1
  have b0 := dd_b t0 t1
  have b1 := dd_b (n := X 0) (by omega) (by omega)
  have ec := dd_lt_iff t0 t1 (show 0 ≤ X 0 by omega) (show X 0 ≤ 18627 by omega)
  unfold f_X0_isIssued
  rw [hC.2.1.1]
  by_cases c : t < X 0
  · simp (disch := omega) only [true_or, or_true, gd_T, bd_e, jn_e, bi_e, gd_t, it_e, ie_e, if_true, if_false, ii_lit, ii_add, ii_sub, ii_mul, ii_neg, ii_lt, ii_le, ii_eq, ii_nat, ii_div, ii_nI, ec]
  · simp (disch := omega) only [true_or, or_true, gd_T, bd_e, jn_e, bi_e, gd_t, it_e, ie_e, if_true, if_false, ii_lit, ii_add, ii_sub, ii_mul, ii_neg, ii_lt, ii_le, ii_eq, ii_nat, ii_div, ii_nI, ec]
theorem ok_buy {g : SG} {μ : SM} (hI : Inv g μ) {N : Nat} (hN : 10000 ≤ N) (a0 a1 a2 : Int32) : OkM Inv ["java/lang/IndexOutOfBoundsException", "java/lang/IllegalArgumentException", "java/lang/IllegalStateException"] (fun v : Int64 => v) (fun v : Int64 => v) g (k_buy N g a0 a1 a2) (q_buy N μ a0 a1 a2) := by
  obtain ⟨td, nh, hd, rt, X, Y, h9⟩ := id hI
  obtain ⟨⟨t0, t1, r0, r1, hnb⟩, ⟨k3, k4, k5, k7⟩, ⟨hc, hm⟩, ⟨m1, m3, m4⟩, ⟨hkc, hLG⟩, hB⟩ := id h9
  have m1z : (va_up μ.1 0 (II 0)) 1 = II td := (va_up_ne _ _ (by decide)).trans m1
  rcases bni hnb ((va_up_ne _ _ (by decide)).trans m4 : (va_up μ.1 0 (II 0)) 4 = II g.2.2.2.2.1) a0 with ⟨i, hi, rfl, f1, f5⟩ | ⟨f1, f5⟩
  · obtain ⟨hW, hC, hM⟩ := hB i hi
    have hi10 := hM.1
    have h5 := hW.2.1
    have hw1 := hW.1
    have eg := gone_c hC hW
    have hmz := mh_up (a := II 0) hm
    obtain ⟨p, p1, p2, rfl⟩ := rng a1
    obtain ⟨q, q1, q2, rfl⟩ := rng a2
    have i9 : (14 * (i : Int) + 9).toNat = 14 * i + 9 := by omega
    have o9 := hM.2.1 9 (by decide)
    rcases rpc p1 p2 with ⟨c1, c2, c3⟩ | ⟨c1, c3⟩
    · rcases rpr q1 q2 with ⟨d1, d2, d3⟩ | ⟨d1, d3⟩
      · have fr := fp_r hW (t := td) (p := q) (by omega) (by omega)
        have fc := fp_c hC hW t0 (show td ≤ 18627 by omega) (p := q) (by omega) d2 (show 200 ≤ N by omega)
        have fm := fp_m (M := va_up μ.1 0 (II 0)) hM hW m1z t0 (show td ≤ 18627 by omega) (p := q) (by omega) d2 (show 200 ≤ N by omega)
        rcases rwd t0 t1 hc hmz k5 hN with ⟨w1, w5⟩ | ⟨w1, w5⟩
        · by_cases c8 : X i 8 = 0
          · have RT : f_X4_requireThere (g.2.2.2.2.2.1 i) = some (.inl ()) := by
              unfold f_X4_requireThere
              simp (disch := omega) only [true_or, or_true, gd_T, bd_e, jn_e, bi_e, gd_t, it_e, ie_e, if_true, if_false, ii_lit, ii_add, ii_sub, ii_mul, ii_neg, ii_lt, ii_le, ii_eq, ii_nat, ii_div, ii_nI, eg]
            have ei0 := iss_c hC hW t0 (show td ≤ 18627 by omega)
            by_cases c6 : td < X i 0
            · refine ok_x2 (E := "java/lang/IllegalStateException") (b := LL 0) (M' := va_up (va_up μ.1 0 (II 0)) 0 (II 3)) hI ?_ (by decide) ?_ ((va_up_self _ _ _).trans (by decide)) (up2 _ _ _)
              · unfold f_X4_buy
                rw [f1]
                simp (disch := omega) only [true_or, or_true, gd_T, bd_e, jn_e, bi_e, gd_t, it_e, ie_e, if_true, if_false, ii_lit, ii_add, ii_sub, ii_mul, ii_neg, ii_lt, ii_le, ii_eq, ii_nat, ii_div, ii_nI, ll_lit, ll_add, ll_sub, ll_mul, ll_neg, ll_div, ii_toL, ll_toI, lz_gt, lz_lt, lz_le, lz_ge, lz_eq, ll_lt, ll_le, ll_eq, ex_i, ex_e, c3, d3, w1, Int.toNat_natCast, RT, k5, hC.1.2.2.2.2.1, fc, ei0]
              · unfold q_buy f_X5_buy f_X5_no
                simp (disch := omega) only [true_or, or_true, gd_T, bd_e, jn_e, bi_e, gd_t, it_e, ie_e, if_true, if_false, ii_lit, ii_add, ii_sub, ii_mul, ii_neg, ii_lt, ii_le, ii_eq, ii_nat, ii_div, ii_nI, ll_lit, ll_add, ll_sub, ll_mul, ll_neg, ll_div, ii_toL, ll_toI, lz_gt, lz_lt, lz_le, lz_ge, lz_eq, ll_lt, ll_le, ll_eq, f5, isin, m1, w5, thr_m hM hW, own_0 hM, own_9 hM, fm, i9, o9, mp_e]
            · by_cases c7 : X i 9 + p ≤ 1000
              · by_cases c9 : LL (p * FP9 (X i) (Y i) td q) ≤ g.2.1
                · have hcm : (LL (p * FP9 (X i) (Y i) td q) ≤ g.2.1) = True := eq_true c9
                  have hcm5 : (LL (p * FP9 (X i) (Y i) td q) ≤ μ.2.1) = True := by rw [← hkc]; exact hcm
                  refine ok_v2 (u := (LL (p * FP9 (X i) (Y i) td q), g.2.1 - LL (p * FP9 (X i) (Y i) td q), va_up (g.2.2.2.2.2.1 i) 4 (II (X i 9 + p)))) (b := LL (p * FP9 (X i) (Y i) td q)) (μ' := (va_up μ.1 0 (II 0), μ.2.1 - LL (p * FP9 (X i) (Y i) td q), μ.2.2.1, upd μ.2.2.2.1 (14 * i + 9) (II (X i 9 + p)), μ.2.2.2.2.1, μ.2.2.2.2.2)) ?_ ?_ (va_up_self μ.1 0 (II 0)) rfl ?_
                  · unfold f_X4_buy
                    rw [f1]
                    simp (disch := omega) only [true_or, or_true, gd_T, bd_e, jn_e, bi_e, gd_t, it_e, ie_e, if_true, if_false, ii_lit, ii_add, ii_sub, ii_mul, ii_neg, ii_lt, ii_le, ii_eq, ii_nat, ii_div, ii_nI, ll_lit, ll_add, ll_sub, ll_mul, ll_neg, ll_div, ii_toL, ll_toI, lz_gt, lz_lt, lz_le, lz_ge, lz_eq, ll_lt, ll_le, ll_eq, ex_i, ex_e, c3, d3, w1, Int.toNat_natCast, RT, k5, hC.1.2.2.2.2.1, fc, ei0, hcm]
                  · unfold q_buy f_X5_buy
                    simp (disch := omega) only [true_or, or_true, gd_T, bd_e, jn_e, bi_e, gd_t, it_e, ie_e, if_true, if_false, ii_lit, ii_add, ii_sub, ii_mul, ii_neg, ii_lt, ii_le, ii_eq, ii_nat, ii_div, ii_nI, ll_lit, ll_add, ll_sub, ll_mul, ll_neg, ll_div, ii_toL, ll_toI, lz_gt, lz_lt, lz_le, lz_ge, lz_eq, ll_lt, ll_le, ll_eq, f5, isin, m1, w5, thr_m hM hW, own_0 hM, own_9 hM, fm, i9, o9, hcm5, mp_e]
                  · have ei : (II (i : Int)).toNatClampNeg = i := by rw [ii_nat (by omega) (by omega)]; omega
                    rw [ei, hkc]
                    exact inv_B h9 (up1 _ _) (wb_9 hW (by omega) (by omega) c8) (cb_9 hC _) (md_up hM (by decide) (by decide) _) (fun j hj X Y hd => md_ne hd hj (by decide) _)
                · have hcm : (LL (p * FP9 (X i) (Y i) td q) ≤ g.2.1) = False := eq_false c9
                  have hcm5 : (LL (p * FP9 (X i) (Y i) td q) ≤ μ.2.1) = False := by rw [← hkc]; exact hcm
                  refine ok_x2 (E := "java/lang/IllegalStateException") (b := LL 0) (M' := va_up (va_up μ.1 0 (II 0)) 0 (II 3)) hI ?_ (by decide) ?_ ((va_up_self _ _ _).trans (by decide)) (up2 _ _ _)
                  · unfold f_X4_buy
                    rw [f1]
                    simp (disch := omega) only [true_or, or_true, gd_T, bd_e, jn_e, bi_e, gd_t, it_e, ie_e, if_true, if_false, ii_lit, ii_add, ii_sub, ii_mul, ii_neg, ii_lt, ii_le, ii_eq, ii_nat, ii_div, ii_nI, ll_lit, ll_add, ll_sub, ll_mul, ll_neg, ll_div, ii_toL, ll_toI, lz_gt, lz_lt, lz_le, lz_ge, lz_eq, ll_lt, ll_le, ll_eq, ex_i, ex_e, c3, d3, w1, Int.toNat_natCast, RT, k5, hC.1.2.2.2.2.1, fc, ei0, hcm]
                  · unfold q_buy f_X5_buy f_X5_no
                    simp (disch := omega) only [true_or, or_true, gd_T, bd_e, jn_e, bi_e, gd_t, it_e, ie_e, if_true, if_false, ii_lit, ii_add, ii_sub, ii_mul, ii_neg, ii_lt, ii_le, ii_eq, ii_nat, ii_div, ii_nI, ll_lit, ll_add, ll_sub, ll_mul, ll_neg, ll_div, ii_toL, ll_toI, lz_gt, lz_lt, lz_le, lz_ge, lz_eq, ll_lt, ll_le, ll_eq, f5, isin, m1, w5, thr_m hM hW, own_0 hM, own_9 hM, fm, i9, o9, mp_e, hcm5]
              · refine ok_x2 (E := "java/lang/IllegalStateException") (b := LL 0) (M' := va_up (va_up μ.1 0 (II 0)) 0 (II 3)) hI ?_ (by decide) ?_ ((va_up_self _ _ _).trans (by decide)) (up2 _ _ _)
                · unfold f_X4_buy
                  rw [f1]
                  simp (disch := omega) only [true_or, or_true, gd_T, bd_e, jn_e, bi_e, gd_t, it_e, ie_e, if_true, if_false, ii_lit, ii_add, ii_sub, ii_mul, ii_neg, ii_lt, ii_le, ii_eq, ii_nat, ii_div, ii_nI, ll_lit, ll_add, ll_sub, ll_mul, ll_neg, ll_div, ii_toL, ll_toI, lz_gt, lz_lt, lz_le, lz_ge, lz_eq, ll_lt, ll_le, ll_eq, ex_i, ex_e, c3, d3, w1, Int.toNat_natCast, RT, k5, hC.1.2.2.2.2.1, fc, ei0]
                · unfold q_buy f_X5_buy f_X5_no
                  simp (disch := omega) only [true_or, or_true, gd_T, bd_e, jn_e, bi_e, gd_t, it_e, ie_e, if_true, if_false, ii_lit, ii_add, ii_sub, ii_mul, ii_neg, ii_lt, ii_le, ii_eq, ii_nat, ii_div, ii_nI, ll_lit, ll_add, ll_sub, ll_mul, ll_neg, ll_div, ii_toL, ll_toI, lz_gt, lz_lt, lz_le, lz_ge, lz_eq, ll_lt, ll_le, ll_eq, f5, isin, m1, w5, thr_m hM hW, own_0 hM, own_9 hM, fm, i9, o9, mp_e]
          · have RT : f_X4_requireThere (g.2.2.2.2.2.1 i) = some (.inr "java/lang/IllegalStateException") := by
              unfold f_X4_requireThere
              simp (disch := omega) only [true_or, or_true, gd_T, bd_e, jn_e, bi_e, gd_t, it_e, ie_e, if_true, if_false, ii_lit, ii_add, ii_sub, ii_mul, ii_neg, ii_lt, ii_le, ii_eq, ii_nat, ii_div, ii_nI, eg]
            refine ok_x2 (E := "java/lang/IllegalStateException") (b := LL 0) (M' := va_up (va_up μ.1 0 (II 0)) 0 (II 3)) hI ?_ (by decide) ?_ ((va_up_self _ _ _).trans (by decide)) (up2 _ _ _)
            · unfold f_X4_buy
              rw [f1]
              simp (disch := omega) only [true_or, or_true, gd_T, bd_e, jn_e, bi_e, gd_t, it_e, ie_e, if_true, if_false, ii_lit, ii_add, ii_sub, ii_mul, ii_neg, ii_lt, ii_le, ii_eq, ii_nat, ii_div, ii_nI, ll_lit, ll_add, ll_sub, ll_mul, ll_neg, ll_div, ii_toL, ll_toI, lz_gt, lz_lt, lz_le, lz_ge, lz_eq, ll_lt, ll_le, ll_eq, ex_i, ex_e, c3, d3, w1, Int.toNat_natCast, RT, k5, hC.1.2.2.2.2.1, fc]
            · unfold q_buy f_X5_buy f_X5_no
              simp (disch := omega) only [true_or, or_true, gd_T, bd_e, jn_e, bi_e, gd_t, it_e, ie_e, if_true, if_false, ii_lit, ii_add, ii_sub, ii_mul, ii_neg, ii_lt, ii_le, ii_eq, ii_nat, ii_div, ii_nI, ll_lit, ll_add, ll_sub, ll_mul, ll_neg, ll_div, ii_toL, ll_toI, lz_gt, lz_lt, lz_le, lz_ge, lz_eq, ll_lt, ll_le, ll_eq, f5, isin, m1, w5, thr_m hM hW, own_0 hM, own_9 hM, fm, i9, o9, mp_e]
        · refine ok_x2 (E := "java/lang/IllegalStateException") (b := LL 0) (M' := va_up (va_up μ.1 0 (II 0)) 0 (II 3)) hI ?_ (by decide) ?_ ((va_up_self _ _ _).trans (by decide)) (up2 _ _ _)
          · unfold f_X4_buy
            rw [f1]
            simp (disch := omega) only [true_or, or_true, gd_T, bd_e, jn_e, bi_e, gd_t, it_e, ie_e, if_true, if_false, ii_lit, ii_add, ii_sub, ii_mul, ii_neg, ii_lt, ii_le, ii_eq, ii_nat, ii_div, ii_nI, ll_lit, ll_add, ll_sub, ll_mul, ll_neg, ll_div, ii_toL, ll_toI, lz_gt, lz_lt, lz_le, lz_ge, lz_eq, ll_lt, ll_le, ll_eq, ex_i, ex_e, c3, d3, w1]
          · unfold q_buy f_X5_buy f_X5_no
            simp (disch := omega) only [true_or, or_true, gd_T, bd_e, jn_e, bi_e, gd_t, it_e, ie_e, if_true, if_false, ii_lit, ii_add, ii_sub, ii_mul, ii_neg, ii_lt, ii_le, ii_eq, ii_nat, ii_div, ii_nI, ll_lit, ll_add, ll_sub, ll_mul, ll_neg, ll_div, ii_toL, ll_toI, lz_gt, lz_lt, lz_le, lz_ge, lz_eq, ll_lt, ll_le, ll_eq, f5, isin, m1, w5, thr_m hM hW, own_0 hM, own_9 hM, fm, i9, o9, mp_e]
      · refine ok_x2 (E := "java/lang/IllegalArgumentException") (b := LL 0) (M' := va_up (va_up μ.1 0 (II 0)) 0 (II 2)) hI ?_ (by decide) ?_ ((va_up_self _ _ _).trans (by decide)) (up2 _ _ _)
        · unfold f_X4_buy
          rw [f1]
          simp (disch := omega) only [true_or, or_true, gd_T, bd_e, jn_e, bi_e, gd_t, it_e, ie_e, if_true, if_false, ii_lit, ii_add, ii_sub, ii_mul, ii_neg, ii_lt, ii_le, ii_eq, ii_nat, ii_div, ii_nI, ll_lit, ll_add, ll_sub, ll_mul, ll_neg, ll_div, ii_toL, ll_toI, lz_gt, lz_lt, lz_le, lz_ge, lz_eq, ll_lt, ll_le, ll_eq, ex_i, ex_e, c3, d3]
        · unfold q_buy f_X5_buy f_X5_no
          simp (disch := omega) only [true_or, or_true, gd_T, bd_e, jn_e, bi_e, gd_t, it_e, ie_e, if_true, if_false, ii_lit, ii_add, ii_sub, ii_mul, ii_neg, ii_lt, ii_le, ii_eq, ii_nat, ii_div, ii_nI, ll_lit, ll_add, ll_sub, ll_mul, ll_neg, ll_div, ii_toL, ll_toI, lz_gt, lz_lt, lz_le, lz_ge, lz_eq, ll_lt, ll_le, ll_eq, f5, isin, mp_e]
    · refine ok_x2 (E := "java/lang/IllegalArgumentException") (b := LL 0) (M' := va_up (va_up μ.1 0 (II 0)) 0 (II 2)) hI ?_ (by decide) ?_ ((va_up_self _ _ _).trans (by decide)) (up2 _ _ _)
      · unfold f_X4_buy
        rw [f1]
        simp (disch := omega) only [true_or, or_true, gd_T, bd_e, jn_e, bi_e, gd_t, it_e, ie_e, if_true, if_false, ii_lit, ii_add, ii_sub, ii_mul, ii_neg, ii_lt, ii_le, ii_eq, ii_nat, ii_div, ii_nI, ll_lit, ll_add, ll_sub, ll_mul, ll_neg, ll_div, ii_toL, ll_toI, lz_gt, lz_lt, lz_le, lz_ge, lz_eq, ll_lt, ll_le, ll_eq, ex_i, ex_e, c3]
      · unfold q_buy f_X5_buy f_X5_no
        simp (disch := omega) only [true_or, or_true, gd_T, bd_e, jn_e, bi_e, gd_t, it_e, ie_e, if_true, if_false, ii_lit, ii_add, ii_sub, ii_mul, ii_neg, ii_lt, ii_le, ii_eq, ii_nat, ii_div, ii_nI, ll_lit, ll_add, ll_sub, ll_mul, ll_neg, ll_div, ii_toL, ll_toI, lz_gt, lz_lt, lz_le, lz_ge, lz_eq, ll_lt, ll_le, ll_eq, f5, isin, mp_e]
  · refine ok_x2 (E := "java/lang/IndexOutOfBoundsException") (b := LL 0) (M' := va_up (va_up μ.1 0 (II 0)) 0 (II 1)) hI ?_ (by decide) ?_ ((va_up_self _ _ _).trans (by decide)) (up2 _ _ _)
    · unfold f_X4_buy
      rw [f1]
      simp (disch := omega) only [true_or, or_true, gd_T, bd_e, jn_e, bi_e, gd_t, it_e, ie_e, if_true, if_false, ii_lit, ii_add, ii_sub, ii_mul, ii_neg, ii_lt, ii_le, ii_eq, ii_nat, ii_div, ii_nI, ll_lit, ll_add, ll_sub, ll_mul, ll_neg, ll_div, ii_toL, ll_toI, lz_gt, lz_lt, lz_le, lz_ge, lz_eq, ll_lt, ll_le, ll_eq, ex_i, ex_e]
    · have f5z : f_X5_isBond (va_up μ.1 0 (0 : Int32)) a0 = some 0 := f5
      unfold q_buy f_X5_buy f_X5_no
      rw [f5z, bi_e, if_pos rfl]
      rfl
theorem ok_sell {g : SG} {μ : SM} (hI : Inv g μ) {N : Nat} (hN : 10000 ≤ N) (a0 a1 a2 : Int32) : OkM Inv ["java/lang/IndexOutOfBoundsException", "java/lang/IllegalArgumentException", "java/lang/IllegalStateException"] (fun v : Int64 => v) (fun v : Int64 => v) g (k_sell N g a0 a1 a2) (q_sell N μ a0 a1 a2) := by
  obtain ⟨td, nh, hd, rt, X, Y, h9⟩ := id hI
  obtain ⟨⟨t0, t1, r0, r1, hnb⟩, ⟨k3, k4, k5, k7⟩, ⟨hc, hm⟩, ⟨m1, m3, m4⟩, ⟨hkc, hLG⟩, hB⟩ := id h9
  have m1z : (va_up μ.1 0 (II 0)) 1 = II td := (va_up_ne _ _ (by decide)).trans m1
  rcases bni hnb ((va_up_ne _ _ (by decide)).trans m4 : (va_up μ.1 0 (II 0)) 4 = II g.2.2.2.2.1) a0 with ⟨i, hi, rfl, f1, f5⟩ | ⟨f1, f5⟩
  · obtain ⟨hW, hC, hM⟩ := hB i hi
    have hi10 := hM.1
    have h5 := hW.2.1
    have hw1 := hW.1
    have eg := gone_c hC hW
    have hmz := mh_up (a := II 0) hm
    obtain ⟨p, p1, p2, rfl⟩ := rng a1
    obtain ⟨q, q1, q2, rfl⟩ := rng a2
    have i9 : (14 * (i : Int) + 9).toNat = 14 * i + 9 := by omega
    have o9 := hM.2.1 9 (by decide)
    rcases rpc p1 p2 with ⟨c1, c2, c3⟩ | ⟨c1, c3⟩
    · rcases rpr q1 q2 with ⟨d1, d2, d3⟩ | ⟨d1, d3⟩
      · have fr := fp_r hW (t := td) (p := q) (by omega) (by omega)
        have fc := fp_c hC hW t0 (show td ≤ 18627 by omega) (p := q) (by omega) d2 (show 200 ≤ N by omega)
        have fm := fp_m (M := va_up μ.1 0 (II 0)) hM hW m1z t0 (show td ≤ 18627 by omega) (p := q) (by omega) d2 (show 200 ≤ N by omega)
        rcases rwd t0 t1 hc hmz k5 hN with ⟨w1, w5⟩ | ⟨w1, w5⟩
        · by_cases c7 : p ≤ X i 9
          · have c8 : X i 8 = 0 := by
              apply Decidable.byContradiction; intro h
              have := hW.2.2.2.2.2 h
              omega
            refine ok_v2 (u := (LL (p * FP9 (X i) (Y i) td q), g.2.1 + LL (p * FP9 (X i) (Y i) td q), va_up (g.2.2.2.2.2.1 i) 4 (II (X i 9 - p)))) (b := LL (p * FP9 (X i) (Y i) td q)) (μ' := (va_up μ.1 0 (II 0), μ.2.1 + LL (p * FP9 (X i) (Y i) td q), μ.2.2.1, upd μ.2.2.2.1 (14 * i + 9) (II (X i 9 - p)), μ.2.2.2.2.1, μ.2.2.2.2.2)) ?_ ?_ (va_up_self μ.1 0 (II 0)) rfl ?_
            · unfold f_X4_sell
              rw [f1]
              simp (disch := omega) only [true_or, or_true, gd_T, bd_e, jn_e, bi_e, gd_t, it_e, ie_e, if_true, if_false, ii_lit, ii_add, ii_sub, ii_mul, ii_neg, ii_lt, ii_le, ii_eq, ii_nat, ii_div, ii_nI, ll_lit, ll_add, ll_sub, ll_mul, ll_neg, ll_div, ii_toL, ll_toI, lz_gt, lz_lt, lz_le, lz_ge, lz_eq, ll_lt, ll_le, ll_eq, ex_i, ex_e, c3, d3, w1, Int.toNat_natCast, k5, hC.1.2.2.2.2.1, fc]
            · unfold q_sell f_X5_sell
              simp (disch := omega) only [true_or, or_true, gd_T, bd_e, jn_e, bi_e, gd_t, it_e, ie_e, if_true, if_false, ii_lit, ii_add, ii_sub, ii_mul, ii_neg, ii_lt, ii_le, ii_eq, ii_nat, ii_div, ii_nI, ll_lit, ll_add, ll_sub, ll_mul, ll_neg, ll_div, ii_toL, ll_toI, lz_gt, lz_lt, lz_le, lz_ge, lz_eq, ll_lt, ll_le, ll_eq, f5, isin, m1, w5, thr_m hM hW, own_0 hM, own_9 hM, fm, i9, o9, mp_e]
            · have ei : (II (i : Int)).toNatClampNeg = i := by rw [ii_nat (by omega) (by omega)]; omega
              rw [ei, hkc]
              exact inv_B h9 (up1 _ _) (wb_9 hW (by omega) (by omega) c8) (cb_9 hC _) (md_up hM (by decide) (by decide) _) (fun j hj X Y hd => md_ne hd hj (by decide) _)
          · refine ok_x2 (E := "java/lang/IllegalStateException") (b := LL 0) (M' := va_up (va_up μ.1 0 (II 0)) 0 (II 3)) hI ?_ (by decide) ?_ ((va_up_self _ _ _).trans (by decide)) (up2 _ _ _)
            · unfold f_X4_sell
              rw [f1]
              simp (disch := omega) only [true_or, or_true, gd_T, bd_e, jn_e, bi_e, gd_t, it_e, ie_e, if_true, if_false, ii_lit, ii_add, ii_sub, ii_mul, ii_neg, ii_lt, ii_le, ii_eq, ii_nat, ii_div, ii_nI, ll_lit, ll_add, ll_sub, ll_mul, ll_neg, ll_div, ii_toL, ll_toI, lz_gt, lz_lt, lz_le, lz_ge, lz_eq, ll_lt, ll_le, ll_eq, ex_i, ex_e, c3, d3, w1, Int.toNat_natCast, k5, hC.1.2.2.2.2.1, fc]
            · unfold q_sell f_X5_sell f_X5_no
              simp (disch := omega) only [true_or, or_true, gd_T, bd_e, jn_e, bi_e, gd_t, it_e, ie_e, if_true, if_false, ii_lit, ii_add, ii_sub, ii_mul, ii_neg, ii_lt, ii_le, ii_eq, ii_nat, ii_div, ii_nI, ll_lit, ll_add, ll_sub, ll_mul, ll_neg, ll_div, ii_toL, ll_toI, lz_gt, lz_lt, lz_le, lz_ge, lz_eq, ll_lt, ll_le, ll_eq, f5, isin, m1, w5, thr_m hM hW, own_0 hM, own_9 hM, fm, i9, o9, mp_e]
        · refine ok_x2 (E := "java/lang/IllegalStateException") (b := LL 0) (M' := va_up (va_up μ.1 0 (II 0)) 0 (II 3)) hI ?_ (by decide) ?_ ((va_up_self _ _ _).trans (by decide)) (up2 _ _ _)
          · unfold f_X4_sell
            rw [f1]
            simp (disch := omega) only [true_or, or_true, gd_T, bd_e, jn_e, bi_e, gd_t, it_e, ie_e, if_true, if_false, ii_lit, ii_add, ii_sub, ii_mul, ii_neg, ii_lt, ii_le, ii_eq, ii_nat, ii_div, ii_nI, ll_lit, ll_add, ll_sub, ll_mul, ll_neg, ll_div, ii_toL, ll_toI, lz_gt, lz_lt, lz_le, lz_ge, lz_eq, ll_lt, ll_le, ll_eq, ex_i, ex_e, c3, d3, w1]
          · unfold q_sell f_X5_sell f_X5_no
            simp (disch := omega) only [true_or, or_true, gd_T, bd_e, jn_e, bi_e, gd_t, it_e, ie_e, if_true, if_false, ii_lit, ii_add, ii_sub, ii_mul, ii_neg, ii_lt, ii_le, ii_eq, ii_nat, ii_div, ii_nI, ll_lit, ll_add, ll_sub, ll_mul, ll_neg, ll_div, ii_toL, ll_toI, lz_gt, lz_lt, lz_le, lz_ge, lz_eq, ll_lt, ll_le, ll_eq, f5, isin, m1, w5, thr_m hM hW, own_0 hM, own_9 hM, fm, i9, o9, mp_e]
      · refine ok_x2 (E := "java/lang/IllegalArgumentException") (b := LL 0) (M' := va_up (va_up μ.1 0 (II 0)) 0 (II 2)) hI ?_ (by decide) ?_ ((va_up_self _ _ _).trans (by decide)) (up2 _ _ _)
        · unfold f_X4_sell
          rw [f1]
          simp (disch := omega) only [true_or, or_true, gd_T, bd_e, jn_e, bi_e, gd_t, it_e, ie_e, if_true, if_false, ii_lit, ii_add, ii_sub, ii_mul, ii_neg, ii_lt, ii_le, ii_eq, ii_nat, ii_div, ii_nI, ll_lit, ll_add, ll_sub, ll_mul, ll_neg, ll_div, ii_toL, ll_toI, lz_gt, lz_lt, lz_le, lz_ge, lz_eq, ll_lt, ll_le, ll_eq, ex_i, ex_e, c3, d3]
        · unfold q_sell f_X5_sell f_X5_no
          simp (disch := omega) only [true_or, or_true, gd_T, bd_e, jn_e, bi_e, gd_t, it_e, ie_e, if_true, if_false, ii_lit, ii_add, ii_sub, ii_mul, ii_neg, ii_lt, ii_le, ii_eq, ii_nat, ii_div, ii_nI, ll_lit, ll_add, ll_sub, ll_mul, ll_neg, ll_div, ii_toL, ll_toI, lz_gt, lz_lt, lz_le, lz_ge, lz_eq, ll_lt, ll_le, ll_eq, f5, isin, mp_e]
    · refine ok_x2 (E := "java/lang/IllegalArgumentException") (b := LL 0) (M' := va_up (va_up μ.1 0 (II 0)) 0 (II 2)) hI ?_ (by decide) ?_ ((va_up_self _ _ _).trans (by decide)) (up2 _ _ _)
      · unfold f_X4_sell
        rw [f1]
        simp (disch := omega) only [true_or, or_true, gd_T, bd_e, jn_e, bi_e, gd_t, it_e, ie_e, if_true, if_false, ii_lit, ii_add, ii_sub, ii_mul, ii_neg, ii_lt, ii_le, ii_eq, ii_nat, ii_div, ii_nI, ll_lit, ll_add, ll_sub, ll_mul, ll_neg, ll_div, ii_toL, ll_toI, lz_gt, lz_lt, lz_le, lz_ge, lz_eq, ll_lt, ll_le, ll_eq, ex_i, ex_e, c3]
      · unfold q_sell f_X5_sell f_X5_no
        simp (disch := omega) only [true_or, or_true, gd_T, bd_e, jn_e, bi_e, gd_t, it_e, ie_e, if_true, if_false, ii_lit, ii_add, ii_sub, ii_mul, ii_neg, ii_lt, ii_le, ii_eq, ii_nat, ii_div, ii_nI, ll_lit, ll_add, ll_sub, ll_mul, ll_neg, ll_div, ii_toL, ll_toI, lz_gt, lz_lt, lz_le, lz_ge, lz_eq, ll_lt, ll_le, ll_eq, f5, isin, mp_e]
  · refine ok_x2 (E := "java/lang/IndexOutOfBoundsException") (b := LL 0) (M' := va_up (va_up μ.1 0 (II 0)) 0 (II 1)) hI ?_ (by decide) ?_ ((va_up_self _ _ _).trans (by decide)) (up2 _ _ _)
    · unfold f_X4_sell
      rw [f1]
      simp (disch := omega) only [true_or, or_true, gd_T, bd_e, jn_e, bi_e, gd_t, it_e, ie_e, if_true, if_false, ii_lit, ii_add, ii_sub, ii_mul, ii_neg, ii_lt, ii_le, ii_eq, ii_nat, ii_div, ii_nI, ll_lit, ll_add, ll_sub, ll_mul, ll_neg, ll_div, ii_toL, ll_toI, lz_gt, lz_lt, lz_le, lz_ge, lz_eq, ll_lt, ll_le, ll_eq, ex_i, ex_e]
    · have f5z : f_X5_isBond (va_up μ.1 0 (0 : Int32)) a0 = some 0 := f5
      unfold q_sell f_X5_sell f_X5_no
      rw [f5z, bi_e, if_pos rfl]
      rfl
