/-! pure: a look at a coupon date, the class -/
section LKB
variable {X Y : Nat → Int} {B S : Nat → Int32} {T : Nat → Int64} {n : Nat} {ds : Nat → Int32} {rt : Int}
set_option maxHeartbeats 4000000 in
theorem lkc_E (hC : CB X Y B S T n ds) (hW : WB X Y) {j : Nat} (hj : j + 1 = n) {N : Nat} {LG : Nat → Int64} : f_X0_lookAt N B S T n ds LG (II j) (II rt) = some (va_up (va_up (va_up B 3 (II ((j : Int) + 1))) 2 (II 1)) 4 (II 0), va_up (va_up LG 0 (LG 0 + LL (X 9 * CP X Y j (10 * X 5)))) 3 (LG 3 + LL (X 9 * (10 * X 5)))) := by
  have h9 := hW.2.1
  have hn := hC.1.1
  have b1 := hC.1.2.1
  have b4 := hC.1.2.2.2.2.1
  have ef := fo_c h9.1 h9.2.1
  have ec := cpn_c hC hW (j := j) (by omega) (F := 10 * X 5) (by omega) (by omega)
  have u1 : va_up B 3 (II ((j : Int) + 1)) 1 = II (X 5) := (va_up_ne _ _ (by decide)).trans b1
  unfold f_X0_lookAt f_X0_face f_X0_isEnd f_X0_leave
  simp (disch := omega) only [true_or, or_true, gd_T, bd_e, jn_e, bi_e, gd_t, it_e, ie_e, if_true, if_false, ii_lit, ii_add, ii_sub, ii_mul, ii_neg, ii_lt, ii_le, ii_eq, ii_nat, ii_div, ii_nI, ll_lit, ll_add, ll_sub, ll_mul, ll_neg, ll_div, ii_toL, ll_toI, lz_gt, lz_lt, lz_le, lz_ge, lz_eq, ll_lt, ll_le, ll_eq, b1, b4, u1, ef, ec]
set_option maxHeartbeats 4000000 in
theorem lkc_N (hC : CB X Y B S T n ds) (hW : WB X Y) {j : Nat} (hj : j + 1 < n) (h8 : X 8 = 0) (r0 : 0 ≤ rt) (r1 : rt ≤ 2000) {N : Nat} (hN : 300 ≤ N) {LG : Nat → Int64} {l : Int} (hl : l = X 5 - SK X Y j (X 5)) :
    (l = 0 → f_X0_lookAt N B S T n ds LG (II j) (II rt) = some (va_up (va_up (va_up (va_up B 3 (II ((j : Int) + 1))) 1 (II l)) 2 (II 1)) 4 (II 0), va_up (va_up LG 0 (LG 0 + LL (X 9 * CP X Y j (10 * X 5)))) 1 (LG 1 + LL (X 9 * (10 * SK X Y j (X 5)))))) ∧
    (l ≠ 0 → ¬ CU X Y j → f_X0_lookAt N B S T n ds LG (II j) (II rt) = some (va_up (va_up B 3 (II ((j : Int) + 1))) 1 (II l), va_up (va_up LG 0 (LG 0 + LL (X 9 * CP X Y j (10 * X 5)))) 1 (LG 1 + LL (X 9 * (10 * SK X Y j (X 5)))))) ∧
    (l ≠ 0 → CU X Y j → WO (LKX X (j + 1) l 0 (X 9)) Y (Y (j + 1)) l rt ≤ 10 * l * X 13 / 10000 → f_X0_lookAt N B S T n ds LG (II j) (II rt) = some (va_up (va_up B 3 (II ((j : Int) + 1))) 1 (II l), va_up (va_up LG 0 (LG 0 + LL (X 9 * CP X Y j (10 * X 5)))) 1 (LG 1 + LL (X 9 * (10 * SK X Y j (X 5)))))) ∧
    (l ≠ 0 → CU X Y j → 10 * l * X 13 / 10000 < WO (LKX X (j + 1) l 0 (X 9)) Y (Y (j + 1)) l rt → f_X0_lookAt N B S T n ds LG (II j) (II rt) = some (va_up (va_up (va_up (va_up B 3 (II ((j : Int) + 1))) 1 (II l)) 2 (II 2)) 4 (II 0), va_up (va_up (va_up LG 0 (LG 0 + LL (X 9 * CP X Y j (10 * X 5)))) 1 (LG 1 + LL (X 9 * (10 * SK X Y j (X 5))))) 2 (LG 2 + LL (X 9 * (10 * l * X 13 / 10000))))) := by
  have h9 := hW.2.1
  have h13 := hW.2.2.1
  have hn := hC.1.1
  have b1 := hC.1.2.1
  have b2 := hC.1.2.2.1
  have b4 := hC.1.2.2.2.2.1
  have b8 := hC.1.2.2.2.2.2.2.1
  have sr := sk_r hW (j := j) h9.1
  have ef := fo_c h9.1 h9.2.1
  have ec := cpn_c hC hW (j := j) (by omega) (F := 10 * X 5) (by omega) (by omega)
  have hW1 : WB (LKX X (j + 1) (X 5) 0 (X 9)) Y := wb_l hW (by omega) (by omega) h9.1 h9.2.1 (by omega) (by omega) (by omega) (by omega) (fun _ => by omega) (fun hh => absurd rfl hh)
  have hC1 : CB (LKX X (j + 1) (X 5) 0 (X 9)) Y (va_up B 3 (II ((j : Int) + 1))) S T n ds := cb_l hC ((va_up_ne _ _ (by decide)).trans b1) ((va_up_ne _ _ (by decide)).trans (by rw [b2, h8])) (va_up_self _ _ _) ((va_up_ne _ _ (by decide)).trans b4) (va_up_ne _ _ (by decide)) (va_up_ne _ _ (by decide)) (va_up_ne _ _ (by decide)) (va_up_ne _ _ (by decide))
  have es : f_X0_sunkOn (va_up B 3 (II ((j : Int) + 1))) n ds (II j) (II (X 5)) = some (II (SK X Y j (X 5))) := snk_c hC1 hW1 (by omega) h9.1 h9.2.1
  have eg := fo_c (l := SK X Y j (X 5)) sr.1 (by omega)
  have el : X 5 - SK X Y j (X 5) = l := hl.symm
  have hW2 : WB (LKX X (j + 1) l 0 (X 9)) Y := wb_l hW (by omega) (by omega) (by omega) (by omega) (by omega) (by omega) (by omega) (by omega) (fun _ => by omega) (fun hh => absurd rfl hh)
  have hC2 : CB (LKX X (j + 1) l 0 (X 9)) Y (va_up (va_up B 3 (II ((j : Int) + 1))) 1 (II l)) S T n ds := cb_l hC (va_up_self _ _ _) (by rw [va_up_ne _ _ (by decide), va_up_ne _ _ (by decide), b2, h8]) (by rw [va_up_ne _ _ (by decide), va_up_self]) (by rw [va_up_ne _ _ (by decide), va_up_ne _ _ (by decide), b4]) (by rw [va_up_ne _ _ (by decide), va_up_ne _ _ (by decide)]) (by rw [va_up_ne _ _ (by decide), va_up_ne _ _ (by decide)]) (by rw [va_up_ne _ _ (by decide), va_up_ne _ _ (by decide)]) (by rw [va_up_ne _ _ (by decide), va_up_ne _ _ (by decide)])
  have b82 : (va_up (va_up B 3 (II ((j : Int) + 1))) 1 (II l)) 8 = II (X 13) := by rw [va_up_ne _ _ (by decide), va_up_ne _ _ (by decide), b8]
  have y1 := wb_y hW (j := j + 1) (by omega)
  have ed := hC.2.2 j (by omega)
  have ei := icd_c hC2 hW2 (j := j) (by omega)
  have ew : f_X0_worthAt N (va_up (va_up B 3 (II ((j : Int) + 1))) 1 (II l)) S T n ds (II (DD (Y (j + 1)))) (II l) (II rt) = some (LL (WO (LKX X (j + 1) l 0 (X 9)) Y (Y (j + 1)) l rt)) := (wor_c hC2 hW2 (t := Y (j + 1)) (l := l) (y := rt) (by omega) (by omega) (by omega) (by omega) r0 (by omega) (N := N) (by omega)).trans (congrArg (fun z => some (LL z)) (if_pos rfl))
  have wr := wo_r hW2 (t := Y (j + 1)) (l := l) (y := rt) (by omega) (by omega) (by omega) r0 (by omega)
  have ek := fo_c (l := l) (by omega) (by omega)
  have p := mulr (a := 10 * l) (b := X 13) (A := 100000) (B := 15000) (by omega) (by omega) (by omega) (by omega)
  generalize WO (LKX X (j + 1) l 0 (X 9)) Y (Y (j + 1)) l rt = wv at *
  refine ⟨fun a1 => ?_, fun a1 a2 => ?_, fun a1 a2 a3 => ?_, fun a1 a2 a3 => ?_⟩
  · unfold f_X0_lookAt f_X0_face f_X0_isEnd f_X0_leave
    simp (disch := omega) only [true_or, or_true, gd_T, bd_e, jn_e, bi_e, gd_t, it_e, ie_e, if_true, if_false, ii_lit, ii_add, ii_sub, ii_mul, ii_neg, ii_lt, ii_le, ii_eq, ii_nat, ii_div, ii_nI, ll_lit, ll_add, ll_sub, ll_mul, ll_neg, ll_div, ii_toL, ll_toI, lz_gt, lz_lt, lz_le, lz_ge, lz_eq, ll_lt, ll_le, ll_eq, b1, b4, ef, ec, es, eg, el]
  · have ei : f_X0_isCallDate (va_up (va_up B 3 (II ((j : Int) + 1))) 1 (II l)) n ds (II j) = some (II 0) := ei.trans (congrArg some (if_neg a2))
    unfold f_X0_lookAt f_X0_face f_X0_isEnd f_X0_leave
    simp (disch := omega) only [true_or, or_true, gd_T, bd_e, jn_e, bi_e, gd_t, it_e, ie_e, if_true, if_false, ii_lit, ii_add, ii_sub, ii_mul, ii_neg, ii_lt, ii_le, ii_eq, ii_nat, ii_div, ii_nI, ll_lit, ll_add, ll_sub, ll_mul, ll_neg, ll_div, ii_toL, ll_toI, lz_gt, lz_lt, lz_le, lz_ge, lz_eq, ll_lt, ll_le, ll_eq, b1, b4, ef, ec, es, eg, el, ei]
  · have ei : f_X0_isCallDate (va_up (va_up B 3 (II ((j : Int) + 1))) 1 (II l)) n ds (II j) = some (II 1) := ei.trans (congrArg some (if_pos a2))
    unfold f_X0_lookAt f_X0_face f_X0_isEnd f_X0_leave f_X0_callPayment
    simp (disch := omega) only [true_or, or_true, gd_T, bd_e, jn_e, bi_e, gd_t, it_e, ie_e, if_true, if_false, ii_lit, ii_add, ii_sub, ii_mul, ii_neg, ii_lt, ii_le, ii_eq, ii_nat, ii_div, ii_nI, ll_lit, ll_add, ll_sub, ll_mul, ll_neg, ll_div, ii_toL, ll_toI, lz_gt, lz_lt, lz_le, lz_ge, lz_eq, ll_lt, ll_le, ll_eq, b1, b4, ef, ec, es, eg, el, ei, ed, ew, ek, b82, Int.toNat_natCast]
  · have ei : f_X0_isCallDate (va_up (va_up B 3 (II ((j : Int) + 1))) 1 (II l)) n ds (II j) = some (II 1) := ei.trans (congrArg some (if_pos a2))
    unfold f_X0_lookAt f_X0_face f_X0_isEnd f_X0_leave f_X0_callPayment
    simp (disch := omega) only [true_or, or_true, gd_T, bd_e, jn_e, bi_e, gd_t, it_e, ie_e, if_true, if_false, ii_lit, ii_add, ii_sub, ii_mul, ii_neg, ii_lt, ii_le, ii_eq, ii_nat, ii_div, ii_nI, ll_lit, ll_add, ll_sub, ll_mul, ll_neg, ll_div, ii_toL, ll_toI, lz_gt, lz_lt, lz_le, lz_ge, lz_eq, ll_lt, ll_le, ll_eq, b1, b4, ef, ec, es, eg, el, ei, ed, ew, ek, b82, Int.toNat_natCast]
end LKB
