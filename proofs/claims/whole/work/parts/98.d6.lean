/-! pure: a look at a coupon date, parts -/
def TL9 (N : Nat) (M mdy : Nat → Int32) (a0 v1 : Int32) (x14 w15 : Int64) (w16 : Nat → Int32) (w17 : Nat → Int64) : Option (Int64 × Int64 × (Nat → Int32) × (Nat → Int64)) :=
  (f_X5_own w16 a0 5).bind fun v18 : Int32 => (if v18 = 0 then (f_X5_leave w16 a0 1).bind fun v33 : (Nat → Int32) => some (x14, w15, v33, w17) else (f_X5_isCalled w16 mdy a0 v1).bind fun v20 : Int32 => (if v20 = 0 then some (x14, w15, w16, w17) else (f_X5_couponDay mdy a0 v1).bind fun v22 : Int32 => (f_X5_own w16 a0 5).bind fun v23 : Int32 => (f_X5_worthOn N w16 mdy a0 v22 v23 (M 3)).bind fun v24 : Int64 => (f_X5_own w16 a0 5).bind fun v25 : Int32 => (f_X5_callPaid w16 a0 v25).bind fun v26 : Int64 => (if (lg_cmp v24 v26) ≤ 0 then some (x14, w15, w16, w17) else (f_X5_own w16 a0 5).bind fun v28 : Int32 => (f_X5_callPaid w16 a0 v28).bind fun v29 : Int64 => (f_X5_pay w15 w16 w17 a0 2 v29).bind fun v30 : Int64 × Int64 × (Nat → Int64) => bd (x14 + v30.1 : Int64) fun x31 : Int64 => (f_X5_leave w16 a0 2).bind fun v32 : (Nat → Int32) => some (x31, v30.2.1, v32, v30.2.2))))
theorem look_u (N : Nat) (M : Nat → Int32) (mc : Int64) (mof : Nat → Int32) (mdy : Nat → Int32) (mpd : Nat → Int64) (a0 : Int32) : f_X5_look N M mc mof mdy mpd a0 = ((f_X5_own mof a0 7).bind fun v1 : Int32 => bd ((14 * a0) + 7 : Int32) fun x2 : Int32 => gd (¬ (x2 < 0 ∨ 140 ≤ x2.toNatClampNeg)) (bd ((mof x2.toNatClampNeg) + 1 : Int32) fun x4 : Int32 => gd (¬ (x2 < 0 ∨ 140 ≤ x2.toNatClampNeg)) (bd (upd mof x2.toNatClampNeg x4) fun w6 : Nat → Int32 => (f_X5_own w6 a0 5).bind fun v7 : Int32 => (f_X5_coupon N w6 mdy a0 v1 (10 * v7.toInt64)).bind fun v8 : Int32 => (f_X5_pay mc w6 mpd a0 0 v8.toInt64).bind fun v9 : Int64 × Int64 × (Nat → Int64) => (f_X5_own w6 a0 6).bind fun v10 : Int32 => (if v1 = (v10 - 1) then (f_X5_own w6 a0 5).bind fun v45 : Int32 => (f_X5_pay v9.2.1 w6 v9.2.2 a0 3 (10 * v45.toInt64)).bind fun v46 : Int64 × Int64 × (Nat → Int64) => bd (v9.1 + v46.1 : Int64) fun x47 : Int64 => (f_X5_leave w6 a0 1).bind fun v48 : (Nat → Int32) => some (x47, v46.2.1, v48, v46.2.2) else (f_X5_isSunk w6 mdy a0 v1).bind fun v12 : Int32 => jn (TL9 N M mdy a0 v1) fun K13 => (if v12 = 0 then K13 v9.1 v9.2.1 w6 v9.2.2 else (f_X5_own w6 a0 5).bind fun v35 : Int32 => (f_X5_own w6 a0 11).bind fun v36 : Int32 => bd (if v36 < v35 then v36 else v35 : Int32) fun x37 : Int32 => (f_X5_pay v9.2.1 w6 v9.2.2 a0 1 (10 * x37.toInt64)).bind fun v38 : Int64 × Int64 × (Nat → Int64) => bd (v9.1 + v38.1 : Int64) fun x39 : Int64 => bd ((14 * a0) + 5 : Int32) fun x40 : Int32 => gd (¬ (x40 < 0 ∨ 140 ≤ x40.toNatClampNeg)) (bd ((w6 x40.toNatClampNeg) - x37 : Int32) fun x42 : Int32 => gd (¬ (x40 < 0 ∨ 140 ≤ x40.toNatClampNeg)) (bd (upd w6 x40.toNatClampNeg x42) fun w44 : Nat → Int32 => K13 x39 v38.2.1 w44 v38.2.2))))))) := rfl
/-- a bond looked at: its next, its part, gone or not, held -/
def LKX (X : Nat → Int) (q l c h : Int) : Nat → Int := fun k => if k = 7 then q else if k = 5 then l else if k = 8 then c else if k = 9 then h else X k
theorem lkx_o (X : Nat → Int) (q l c h : Int) {k : Nat} (h5 : k ≠ 5) (h7 : k ≠ 7) (h8 : k ≠ 8) (h9 : k ≠ 9) : LKX X q l c h k = X k := by
  unfold LKX
  rw [if_neg h7, if_neg h5, if_neg h8, if_neg h9]
section LKA
variable {X Y : Nat → Int} {B S : Nat → Int32} {T : Nat → Int64} {n : Nat} {ds mof mdy : Nat → Int32} {i : Nat} {q l c h : Int}
theorem wb_l (hW : WB X Y) (q0 : 0 ≤ q) (q1 : q ≤ X 6) (l0 : 0 ≤ l) (l1 : l ≤ 10000) (c0 : 0 ≤ c) (c2 : c ≤ 2) (h0 : 0 ≤ h) (h1 : h ≤ 1000) (hc : c = 0 → q < X 6) (hg : c ≠ 0 → h = 0) : WB (LKX X q l c h) Y :=
  ⟨hW.1, ⟨l0, l1, hW.2.1.2.2.1, hW.2.1.2.2.2.1, q0, q1, c0, c2, h0, h1⟩, hW.2.2.1, hW.2.2.2.1, hc, hg⟩
theorem cb_l (hC : CB X Y B S T n ds) {B' : Nat → Int32} (h1 : B' 1 = II l) (h2 : B' 2 = II c) (h3 : B' 3 = II q) (h4 : B' 4 = II h) (h5 : B' 5 = B 5) (h6 : B' 6 = B 6) (h7 : B' 7 = B 7) (h8 : B' 8 = B 8) : CB (LKX X q l c h) Y B' S T n ds := by
  obtain ⟨a0, a1, a2, a3, a4, a6, a8, a5, a7⟩ := hC.1
  exact cb_S hC (fun k hk => lkx_o X q l c h (by omega) (by omega) (by omega) (by omega)) ⟨a0, h1, h2, h3, h4, h6.trans a6, h8.trans a8, fun hh => h5.trans (a5 hh), fun hh => h7.trans (a7 hh)⟩
theorem md_l (hM : MD X Y mof mdy i) {w : Nat → Int32} (hw : ∀ k, k < 14 → k ≠ 5 → k ≠ 7 → k ≠ 8 → k ≠ 9 → w (14 * i + k) = mof (14 * i + k)) (h5 : w (14 * i + 5) = II l) (h7 : w (14 * i + 7) = II q) (h8 : w (14 * i + 8) = II c) (h9 : w (14 * i + 9) = II h) : MD (LKX X q l c h) Y w mdy i := by
  refine ⟨hM.1, fun k hk => ?_, hM.2.2⟩
  by_cases c5 : k = 5
  · subst c5; exact h5
  by_cases c7 : k = 7
  · subst c7; exact h7
  by_cases c8 : k = 8
  · subst c8; exact h8
  by_cases c9 : k = 9
  · subst c9; exact h9
  rw [hw k hk c5 c7 c8 c9, hM.2.1 k hk, lkx_o X q l c h c5 c7 c8 c9]
theorem own_g {w : Nat → Int32} (hi : i < 10) {k : Nat} (hk : k < 14) : f_X5_own w (II i) (II k) = some (w (14 * i + k)) := by
  have e : (14 * (i : Int) + k).toNat = 14 * i + k := by omega
  unfold f_X5_own
  simp (disch := omega) only [true_or, or_true, gd_T, bd_e, jn_e, bi_e, gd_t, it_e, ie_e, if_true, if_false, ii_lit, ii_add, ii_sub, ii_mul, ii_neg, ii_lt, ii_le, ii_eq, ii_nat, ii_div, ii_nI, e]
theorem cpn_w (hM : MD X Y mof mdy i) (hW : WB X Y) {j : Nat} (hj : (j : Int) < X 6) {F : Int} (hF : 0 ≤ F) (hF1 : F ≤ 100000) {N : Nat} (hN : 200 ≤ N) {w : Nat → Int32} (hw : ∀ k, k < 14 → k ≠ 7 → w (14 * i + k) = mof (14 * i + k)) : f_X5_coupon N w mdy (II i) (II j) (LL F) = some (II (CP X Y j F)) := by
  rw [← cpn_m hM hW hj hF hF1 hN]
  have o : ∀ k : Nat, k < 14 → k ≠ 7 → f_X5_own w (II i) (II k) = f_X5_own mof (II i) (II k) := fun k a b => by rw [own_g hM.1 a, own_g hM.1 a, hw k a b]
  have o0 : f_X5_own w (II i) 0 = f_X5_own mof (II i) 0 := o 0 (by decide) (by decide)
  have o2 : f_X5_own w (II i) 2 = f_X5_own mof (II i) 2 := o 2 (by decide) (by decide)
  have o3 : f_X5_own w (II i) 3 = f_X5_own mof (II i) 3 := o 3 (by decide) (by decide)
  have o4 : f_X5_own w (II i) 4 = f_X5_own mof (II i) 4 := o 4 (by decide) (by decide)
  unfold f_X5_coupon f_X5_interest
  rw [o0, o2, o3, o4]
theorem pay_g (hi : i < 10) {w : Nat → Int32} (h0 : 0 ≤ h) (h1 : h ≤ 1000) (hw : w (14 * i + 9) = II h) {k : Nat} (hk : k < 4) (mc : Int64) (mpd : Nat → Int64) (v : Int) : f_X5_pay mc w mpd (II i) (II k) (LL v) = some (LL (v * h), mc + LL (v * h), vp_updL mpd k (mpd k + LL (v * h))) := by
  have o9 : f_X5_own w (II i) (II 9) = some (II h) := (own_g hi (by decide : 9 < 14)).trans (congrArg some hw)
  unfold f_X5_pay
  simp (disch := omega) only [true_or, or_true, gd_T, bd_e, jn_e, bi_e, gd_t, it_e, ie_e, if_true, if_false, ii_lit, ii_add, ii_sub, ii_mul, ii_neg, ii_lt, ii_le, ii_eq, ii_nat, ii_div, ii_nI, ll_lit, ll_add, ll_sub, ll_mul, ll_neg, ll_div, ii_toL, ll_toI, lz_gt, lz_lt, lz_le, lz_ge, lz_eq, ll_lt, ll_le, ll_eq, o9, Int.toNat_natCast]
theorem lv_g (hi : i < 10) (w : Nat → Int32) (a : Int32) : f_X5_leave w (II i) a = some (upd (upd w (14 * i + 8) a) (14 * i + 9) (II 0)) := by
  have e8 : (14 * (i : Int) + 8).toNat = 14 * i + 8 := by omega
  have e9 : (14 * (i : Int) + 9).toNat = 14 * i + 9 := by omega
  unfold f_X5_leave
  simp (disch := omega) only [true_or, or_true, gd_T, bd_e, jn_e, bi_e, gd_t, it_e, ie_e, if_true, if_false, ii_lit, ii_add, ii_sub, ii_mul, ii_neg, ii_lt, ii_le, ii_eq, ii_nat, ii_div, ii_nI, e8, e9]
set_option maxHeartbeats 4000000 in
theorem tl_L {M : Nat → Int32} {rt : Int} (hM : MD X Y mof mdy i) (hW : WB X Y) {j : Nat} (hj : (j : Int) < X 6) (m3 : M 3 = II rt) (r0 : 0 ≤ rt) (r1 : rt ≤ 2000) {N : Nat} (hN : 300 ≤ N) (x mc : Int64) (pd : Nat → Int64) :
    (X 5 = 0 → TL9 N M mdy (II i) (II j) x mc mof pd = some (x, mc, upd (upd mof (14 * i + 8) (II 1)) (14 * i + 9) (II 0), pd)) ∧
    (X 5 ≠ 0 → ¬ CU X Y j → TL9 N M mdy (II i) (II j) x mc mof pd = some (x, mc, mof, pd)) ∧
    (X 5 ≠ 0 → CU X Y j → WO X Y (Y (j + 1)) (X 5) rt ≤ 10 * X 5 * X 13 / 10000 → TL9 N M mdy (II i) (II j) x mc mof pd = some (x, mc, mof, pd)) ∧
    (X 5 ≠ 0 → CU X Y j → 10 * X 5 * X 13 / 10000 < WO X Y (Y (j + 1)) (X 5) rt → TL9 N M mdy (II i) (II j) x mc mof pd = some (x + LL (10 * X 5 * X 13 / 10000 * X 9), mc + LL (10 * X 5 * X 13 / 10000 * X 9), upd (upd mof (14 * i + 8) (II 2)) (14 * i + 9) (II 0), vp_updL pd 2 (pd 2 + LL (10 * X 5 * X 13 / 10000 * X 9)))) := by
  have h9 := hW.2.1
  have h13 := hW.2.2.1
  have y1 := wb_y hW (j := j + 1) (by omega)
  have cm := cal_m hM hW hj
  have wo := won_m hM hW (t := Y (j + 1)) (l := X 5) (y := rt) (by omega) (by omega) (by omega) (by omega) r0 (by omega) hN
  have wr := wo_r hW (t := Y (j + 1)) (l := X 5) (y := rt) (by omega) (by omega) (by omega) r0 (by omega)
  have p := mulr (a := 10 * X 5) (b := X 13) (A := 100000) (B := 15000) (by omega) (by omega) (by omega) (by omega)
  have l1 := lv_g hM.1 mof (II 1)
  have l2 := lv_g hM.1 mof (II 2)
  have c9 : mof (14 * i + 9) = II (X 9) := hM.2.1 9 (by decide)
  have py := fun v => pay_g hM.1 (by omega : 0 ≤ X 9) (by omega) c9 (by decide : 2 < 4) mc pd v
  have e2 : II ((2 : Nat) : Int) = II 2 := rfl
  rw [e2] at py
  refine ⟨fun a1 => ?_, fun a1 a2 => ?_, fun a1 a2 a3 => ?_, fun a1 a2 a3 => ?_⟩
  · unfold TL9
    simp (disch := omega) only [true_or, or_true, gd_T, bd_e, jn_e, bi_e, gd_t, it_e, ie_e, if_true, if_false, ii_lit, ii_add, ii_sub, ii_mul, ii_neg, ii_lt, ii_le, ii_eq, ii_nat, ii_div, ii_nI, own_5 hM, a1, l1]
  · have cm := (cm.resolve_left (fun k => a2 k.1)).2
    unfold TL9
    simp (disch := omega) only [true_or, or_true, gd_T, bd_e, jn_e, bi_e, gd_t, it_e, ie_e, if_true, if_false, ii_lit, ii_add, ii_sub, ii_mul, ii_neg, ii_lt, ii_le, ii_eq, ii_nat, ii_div, ii_nI, own_5 hM, cm]
  · have cm := (cm.resolve_right (fun k => k.1 a2)).2
    unfold TL9 f_X5_callPaid
    simp (disch := omega) only [true_or, or_true, gd_T, bd_e, jn_e, bi_e, gd_t, it_e, ie_e, if_true, if_false, ii_lit, ii_add, ii_sub, ii_mul, ii_neg, ii_lt, ii_le, ii_eq, ii_nat, ii_div, ii_nI, ll_lit, ll_add, ll_sub, ll_mul, ll_neg, ll_div, ii_toL, ll_toI, lz_gt, lz_lt, lz_le, lz_ge, lz_eq, ll_lt, ll_le, ll_eq, own_5 hM, own_13 hM, cm, cd_k hM hW (show ((j + 1 : Nat) : Int) ≤ X 6 by omega), m3, wo]
  · have cm := (cm.resolve_right (fun k => k.1 a2)).2
    unfold TL9 f_X5_callPaid
    simp (disch := omega) only [true_or, or_true, gd_T, bd_e, jn_e, bi_e, gd_t, it_e, ie_e, if_true, if_false, ii_lit, ii_add, ii_sub, ii_mul, ii_neg, ii_lt, ii_le, ii_eq, ii_nat, ii_div, ii_nI, ll_lit, ll_add, ll_sub, ll_mul, ll_neg, ll_div, ii_toL, ll_toI, lz_gt, lz_lt, lz_le, lz_ge, lz_eq, ll_lt, ll_le, ll_eq, own_5 hM, own_13 hM, cm, cd_k hM hW (show ((j + 1 : Nat) : Int) ≤ X 6 by omega), m3, wo, py, l2]
end LKA
