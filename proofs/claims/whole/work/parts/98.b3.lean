/-! pure: callsAt, setRate, addHoliday -/
theorem roc_c {X Y : Nat → Int} {B S : Nat → Int32} {T : Nat → Int64} {n : Nat} {ds : Nat → Int32} (hC : CB X Y B S T n ds) (hW : WB X Y) {mof mdy : Nat → Int32} {i : Nat} (hM : MD X Y mof mdy i) {M : Nat → Int32} {N : Nat} (hN : 10000 ≤ N) : ∃ r : Int, f_X0_rateOfCall N B S T n ds = some (II r) ∧ ((f_X5_firstCall N mof mdy (II i)).bind fun v3 : Int32 => (if v3 = (-1) then some ((-1), va_up M 0 (0 : Int32)) else (f_X5_leftBehind N mof mdy (II i) v3).bind fun v5 : Int32 => (if v5 = 0 then some ((-1), va_up M 0 (0 : Int32)) else bd ((-1) : Int32) fun x7 : Int32 => f_X5_callsAt_L53 M mdy (II i) v3 N mof v5 N x7 2001))) = some (II r, va_up M 0 (II 0)) := by
  have h6 := hW.2.1
  have h13 := hW.2.2.1
  have hn := hC.1.1
  have e7 := hC.1.2.2.2.1
  have e5 := hC.1.2.1
  have eg := gone_c hC hW
  have ec := fca_c hC hW (show 200 ≤ N by omega)
  have em := fca_m hM hW (show 200 ≤ N by omega)
  have fr := fc_r (X := X) (Y := Y) ((X 6).toNat - (X 7).toNat) (X 7).toNat
  have i7 : X 7 = (((X 7).toNat : Nat) : Int) := by omega
  generalize FCk X Y ((X 6).toNat - (X 7).toNat) (X 7).toNat = c at *
  unfold f_X0_rateOfCall f_X0_factorBehind f_X5_leftBehind
  by_cases g8 : X 8 = 0
  · by_cases c1 : c = -1
    · subst c1
      refine ⟨-1, ?_, ?_⟩
      · obtain ⟨N, rfl⟩ : ∃ N', N = N' + 1 := ⟨N - 1, by omega⟩
        unfold f_X0_factorBehind_L10
        simp (disch := omega) only [true_or, or_true, gd_T, bd_e, jn_e, bi_e, gd_t, it_e, ie_e, if_true, if_false, ii_lit, ii_add, ii_sub, ii_mul, ii_neg, ii_lt, ii_le, ii_eq, ii_nat, ii_div, ii_nI, eg, ec, e5, e7]
      · simp (disch := omega) only [true_or, or_true, gd_T, bd_e, jn_e, bi_e, gd_t, it_e, ie_e, if_true, if_false, ii_lit, ii_add, ii_sub, ii_mul, ii_neg, ii_lt, ii_le, ii_eq, ii_nat, ii_div, ii_nI, em]
    · have fr := fr.resolve_left c1
      obtain ⟨k, rfl⟩ : ∃ k : Nat, c = k := ⟨c.toNat, by omega⟩
      have lc := fbe_L hC hW (a := k) (by omega) (k + 1 - (X 7).toNat) (X 7).toNat (X 5) (by omega) h6.1 h6.2.1 N (by omega)
      have lm := lbe_L hM hW (a := k) (by omega) (k + 1 - (X 7).toNat) (X 7).toNat (X 5) (by omega) h6.1 h6.2.1 N (by omega)
      have lr := lb_r hW (k + 1 - (X 7).toNat) (X 7).toNat (X 5) h6.1
      rw [← i7] at lc lm
      generalize LBk X Y (k + 1 - (X 7).toNat) (X 7).toNat (X 5) = l at *
      by_cases c2 : l = 0
      · refine ⟨-1, ?_, ?_⟩
        · simp (disch := omega) only [true_or, or_true, gd_T, bd_e, jn_e, bi_e, gd_t, it_e, ie_e, if_true, if_false, ii_lit, ii_add, ii_sub, ii_mul, ii_neg, ii_lt, ii_le, ii_eq, ii_nat, ii_div, ii_nI, eg, ec, e5, e7, lc]
        · simp (disch := omega) only [true_or, or_true, gd_T, bd_e, jn_e, bi_e, gd_t, it_e, ie_e, if_true, if_false, ii_lit, ii_add, ii_sub, ii_mul, ii_neg, ii_lt, ii_le, ii_eq, ii_nat, ii_div, ii_nI, em, own_5 hM, own_7 hM, lm]
      · have yk := wb_y hW (j := k + 1) (by omega)
        have ed := hC.2.2 k (by omega)
        have mm := mulr (a := 10 * l) (A := 100000) (b := X 13) (B := 15000) (by omega) (by omega) (by omega) (by omega)
        obtain ⟨r1, q1, g1⟩ := gzrc hC hW g8 (t := Y (k + 1)) (l := l) (q := 10 * l * X 13 / 10000 + 1) (most := 2000) yk.1 yk.2.2 lr.1 (by omega) (by omega) (by omega) (by omega) (by omega) (show 200 ≤ N by omega)
        obtain ⟨r2, q2, g2⟩ := cl_L (M := M) hM hW (k := k) (by omega) (l := l) lr.1 (by omega) (show 300 ≤ N by omega) 2002 (-1) 2001 (by omega) (by omega) (by omega) (by omega) (Or.inl rfl) (fun y a b => by omega) N (by omega)
        have eq := gs_u g1 g2
        subst eq
        refine ⟨r1, ?_, ?_⟩
        · unfold f_X0_callPayment
          have e13 := hC.1.2.2.2.2.2.2.1
          simp (disch := omega) only [true_or, or_true, gd_T, bd_e, jn_e, bi_e, gd_t, it_e, ie_e, if_true, if_false, ii_lit, ii_add, ii_sub, ii_mul, ii_neg, ii_lt, ii_le, ii_eq, ii_nat, ii_div, ii_nI, ll_lit, ll_add, ll_sub, ll_mul, ll_neg, ll_div, ii_toL, ll_toI, lz_gt, lz_lt, lz_le, lz_ge, lz_eq, ll_lt, ll_le, ll_eq, eg, ec, e5, e7, lc, fo_c lr.1 (show l ≤ 10000 by omega), e13, Int.toNat_natCast, ed, q1]
        · simp (disch := omega) only [true_or, or_true, gd_T, bd_e, jn_e, bi_e, gd_t, it_e, ie_e, if_true, if_false, ii_lit, ii_add, ii_sub, ii_mul, ii_neg, ii_lt, ii_le, ii_eq, ii_nat, ii_div, ii_nI, em, own_5 hM, own_7 hM, lm, q2]
  · refine ⟨-1, ?_, ?_⟩
    · obtain ⟨N, rfl⟩ : ∃ N', N = N' + 1 := ⟨N - 1, by omega⟩
      unfold f_X0_factorBehind_L10
      simp (disch := omega) only [true_or, or_true, gd_T, bd_e, jn_e, bi_e, gd_t, it_e, ie_e, if_true, if_false, ii_lit, ii_add, ii_sub, ii_mul, ii_neg, ii_lt, ii_le, ii_eq, ii_nat, ii_div, ii_nI, eg, ec, e5, e7]
    · simp (disch := omega) only [true_or, or_true, gd_T, bd_e, jn_e, bi_e, gd_t, it_e, ie_e, if_true, if_false, ii_lit, ii_add, ii_sub, ii_mul, ii_neg, ii_lt, ii_le, ii_eq, ii_nat, ii_div, ii_nI, em]
theorem ok_callsAt {g : SG} {μ : SM} (hI : Inv g μ) {N : Nat} (hN : 10000 ≤ N) (a0 : Int32) : OkM Inv ["java/lang/IndexOutOfBoundsException"] Int32.toInt64 Int32.toInt64 g (k_callsAt N g a0) (q_callsAt N μ a0) := by
  obtain ⟨td, nh, hd, rt, X, Y, ⟨t0, t1, r0, r1, hnb⟩, ⟨k3, k4, k5, k7⟩, ⟨hc, hm⟩, ⟨m1, m3, m4⟩, -, hB⟩ := id hI
  have m1z : (va_up μ.1 0 (II 0)) 1 = II td := (va_up_ne _ _ (by decide)).trans m1
  rcases bni hnb ((va_up_ne _ _ (by decide)).trans m4 : (va_up μ.1 0 (II 0)) 4 = II g.2.2.2.2.1) a0 with ⟨i, hi, rfl, f1, f5⟩ | ⟨f1, f5⟩
  · obtain ⟨hW, hC, hM⟩ := hB i hi
    obtain ⟨r, e1, e2⟩ := roc_c hC hW hM (M := μ.1) hN
    refine ok_v (v := II r) (b := II r) (M' := va_up μ.1 0 (II 0)) hI ?_ ?_ (va_up_self _ _ _) (up1 _ _) rfl
    · unfold f_X4_callsAt
      rw [f1]
      simp (disch := omega) only [true_or, or_true, gd_T, bd_e, jn_e, bi_e, gd_t, it_e, ie_e, if_true, if_false, ii_lit, ii_add, ii_sub, ii_mul, ii_neg, ii_lt, ii_le, ii_eq, ii_nat, ii_div, ii_nI, ex_i, e1]
    · have f5' : f_X5_isBond (va_up μ.1 0 (0 : Int32)) (II i) = some 1 := f5
      unfold q_callsAt f_X5_callsAt
      rw [f5', bi_e, if_neg (by decide), e2]
      rfl
  · refine ok_x (E := "java/lang/IndexOutOfBoundsException") (b := II 0) (M' := va_up (va_up μ.1 0 (II 0)) 0 (II 1)) hI ?_ (by decide) ?_ ((va_up_self _ _ _).trans (by decide)) (up2 _ _ _)
    · unfold f_X4_callsAt
      rw [f1]
      simp (disch := omega) only [true_or, or_true, gd_T, bd_e, jn_e, bi_e, gd_t, it_e, ie_e, if_true, if_false, ii_lit, ii_add, ii_sub, ii_mul, ii_neg, ii_lt, ii_le, ii_eq, ii_nat, ii_div, ii_nI, ll_lit, ll_add, ll_sub, ll_mul, ll_neg, ll_div, ii_toL, ll_toI, lz_gt, lz_lt, lz_le, lz_ge, lz_eq, ll_lt, ll_le, ll_eq, ex_i, ex_e]
    · unfold q_callsAt f_X5_callsAt f_X5_no
      simp (disch := omega) only [true_or, or_true, gd_T, bd_e, jn_e, bi_e, gd_t, it_e, ie_e, if_true, if_false, ii_lit, ii_add, ii_sub, ii_mul, ii_neg, ii_lt, ii_le, ii_eq, ii_nat, ii_div, ii_nI, ll_lit, ll_add, ll_sub, ll_mul, ll_neg, ll_div, ii_toL, ll_toI, lz_gt, lz_lt, lz_le, lz_ge, lz_eq, ll_lt, ll_le, ll_eq, f5, isin, mp_e]
theorem ok_setRate {g : SG} {μ : SM} (hI : Inv g μ) {N : Nat} (a0 : Int32) : OkM Inv ["java/lang/IllegalArgumentException"] Int32.toInt64 Int32.toInt64 g (k_setRate N g a0) (q_setRate N μ a0) := by
  obtain ⟨td, nh, hd, rt, X, Y, ⟨t0, t1, r0, r1, hnb⟩, ⟨k3, k4, k5, k7⟩, ⟨hc, hm⟩, ⟨m1, m3, m4⟩, h5, hB⟩ := id hI
  obtain ⟨x, x1, x2, rfl⟩ := rng a0
  by_cases c : 0 ≤ x ∧ x ≤ 2000
  · refine ok_v2 (u := (II rt, va_up g.1 7 (II x))) (b := II rt) (μ' := (va_up (va_up μ.1 0 (II 0)) 3 (II x), μ.2)) ?_ ?_ ?_ rfl ⟨td, nh, hd, x, X, Y, ⟨t0, t1, c.1, c.2, hnb⟩, ⟨?_, ?_, ?_, ?_⟩, ⟨hc, hm.1, ?_, hm.2.2⟩, ⟨?_, ?_, ?_⟩, h5, hB⟩
    · unfold f_X4_setRate f_X4_requireRate
      simp (disch := omega) only [true_or, or_true, gd_T, bd_e, jn_e, bi_e, gd_t, it_e, ie_e, if_true, if_false, ii_lit, ii_add, ii_sub, ii_mul, ii_neg, ii_lt, ii_le, ii_eq, ii_nat, ii_div, ii_nI, ex_i, k7]
    · unfold q_setRate f_X5_setRate
      simp (disch := omega) only [true_or, or_true, gd_T, bd_e, jn_e, bi_e, gd_t, it_e, ie_e, if_true, if_false, ii_lit, ii_add, ii_sub, ii_mul, ii_neg, ii_lt, ii_le, ii_eq, ii_nat, ii_div, ii_nI, isin, m3, mp_e]
    · simp [va_up]; rfl
    · simp [va_up, k3]
    · simp [va_up, k4]
    · simp [va_up, k5]
    · simp [va_up]
    · simp [va_up, hm.2.1]
    · simp [va_up, m1]
    · simp [va_up]
    · simp [va_up, m4]
  · refine ok_x2 (E := "java/lang/IllegalArgumentException") (b := II 0) (M' := va_up (va_up μ.1 0 (II 0)) 0 (II 1)) hI ?_ (by decide) ?_ ((va_up_self _ _ _).trans (by decide)) (up2 _ _ _)
    · unfold f_X4_setRate f_X4_requireRate
      by_cases c1 : x < 0
      · simp (disch := omega) only [true_or, or_true, gd_T, bd_e, jn_e, bi_e, gd_t, it_e, ie_e, if_true, if_false, ii_lit, ii_add, ii_sub, ii_mul, ii_neg, ii_lt, ii_le, ii_eq, ii_nat, ii_div, ii_nI, ex_i, ex_e]
      · simp (disch := omega) only [true_or, or_true, gd_T, bd_e, jn_e, bi_e, gd_t, it_e, ie_e, if_true, if_false, ii_lit, ii_add, ii_sub, ii_mul, ii_neg, ii_lt, ii_le, ii_eq, ii_nat, ii_div, ii_nI, ex_i, ex_e]
    · unfold q_setRate f_X5_setRate f_X5_no
      simp (disch := omega) only [true_or, or_true, gd_T, bd_e, jn_e, bi_e, gd_t, it_e, ie_e, if_true, if_false, ii_lit, ii_add, ii_sub, ii_mul, ii_neg, ii_lt, ii_le, ii_eq, ii_nat, ii_div, ii_nI, isin, mp_e]
theorem adh_L {nh : Nat} {hd : Nat → Int} {M mhol : Nat → Int32} (h : MH nh hd M mhol) {n : Int} (h1 : 0 ≤ n) (h2 : n ≤ 18627) {K5 : Unit → Option (Int32 × (Nat → Int32) × (Nat → Int32))} : ∀ (k j : Nat), j + k = nh → (∀ i, i < j → hd i ≠ n) → ∀ N : Nat, k + 1 ≤ N → (HD nh hd n ∧ f_X5_addHoliday_L25 M mhol (II n) K5 N (II j) = some (II nh, va_up M 0 (II 0), mhol)) ∨ (¬ HD nh hd n ∧ f_X5_addHoliday_L25 M mhol (II n) K5 N (II j) = K5 ())
  | 0, j, hj, hi, N, hN => by
    obtain ⟨N, rfl⟩ : ∃ N', N = N' + 1 := ⟨N - 1, by omega⟩
    have h30 := h.1
    right
    refine ⟨fun ⟨k, hk, e⟩ => hi k (by omega) e, ?_⟩
    unfold f_X5_addHoliday_L25
    simp (disch := omega) only [true_or, or_true, gd_T, bd_e, jn_e, bi_e, gd_t, it_e, ie_e, if_true, if_false, ii_lit, ii_add, ii_sub, ii_mul, ii_neg, ii_lt, ii_le, ii_eq, ii_nat, ii_div, ii_nI, h.2.1]
  | k + 1, j, hj, hi, N, hN => by
    obtain ⟨N, rfl⟩ : ∃ N', N = N' + 1 := ⟨N - 1, by omega⟩
    have h30 := h.1
    have e : ((j : Int) + 1) = ((j + 1 : Nat) : Int) := by omega
    obtain ⟨a1, a2, a3⟩ := h.2.2 j (by omega)
    by_cases c2 : hd j = n
    · left
      refine ⟨⟨j, by omega, c2⟩, ?_⟩
      unfold f_X5_addHoliday_L25
      simp (disch := omega) only [true_or, or_true, gd_T, bd_e, jn_e, bi_e, gd_t, it_e, ie_e, if_true, if_false, ii_lit, ii_add, ii_sub, ii_mul, ii_neg, ii_lt, ii_le, ii_eq, ii_nat, ii_div, ii_nI, h.2.1, Int.toNat_natCast, a3]
    · have ih := adh_L h h1 h2 (K5 := K5) k (j + 1) (by omega) (fun i a => by
        by_cases ci : i = j
        · subst ci; exact c2
        · exact hi i (by omega)) N (by omega)
      unfold f_X5_addHoliday_L25
      simp (disch := omega) only [true_or, or_true, gd_T, bd_e, jn_e, bi_e, gd_t, it_e, ie_e, if_true, if_false, ii_lit, ii_add, ii_sub, ii_mul, ii_neg, ii_lt, ii_le, ii_eq, ii_nat, ii_div, ii_nI, h.2.1, Int.toNat_natCast, a3, e]
      exact ih
theorem ok_addHoliday {g : SG} {μ : SM} (hI : Inv g μ) {N : Nat} (hN : 10000 ≤ N) (a0 : Int32) : OkM Inv ["java/lang/IllegalArgumentException", "java/lang/IllegalStateException"] Int32.toInt64 Int32.toInt64 g (k_addHoliday N g a0) (q_addHoliday N μ a0) := by
  obtain ⟨td, nh, hd, rt, X, Y, ⟨t0, t1, r0, r1, hnb⟩, ⟨k3, k4, k5, k7⟩, ⟨hc, hm⟩, ⟨m1, m3, m4⟩, h5, hB⟩ := id hI
  have h30 := hc.1
  have ez : II ((0 : Nat) : Int) = II 0 := rfl
  rcases rdt a0 with ⟨n, n1, n2, rfl, e1, e5⟩ | ⟨e1, e5⟩
  · have ic := ish_L hc n1 n2 30 0 rfl (fun i a => absurd a (Nat.not_lt_zero i)) N (by omega)
    rw [ez] at ic
    by_cases cH : HD nh hd n
    · have ic := (ic.resolve_right (fun k => k.1 cH)).2
      refine ok_v2 (u := (II nh, g.1, g.2.2.1)) (b := II nh) (μ' := (va_up μ.1 0 (II 0), μ.2)) ?_ ?_ (va_up_self μ.1 0 (II 0)) rfl (inv_M hI (up1 _ _))
      · unfold f_X4_addHoliday f_X4_isHoliday
        rw [e1]
        simp (disch := omega) only [true_or, or_true, gd_T, bd_e, jn_e, bi_e, gd_t, it_e, ie_e, if_true, if_false, ii_lit, ii_add, ii_sub, ii_mul, ii_neg, ii_lt, ii_le, ii_eq, ii_nat, ii_div, ii_nI, ex_i, ic, k3]
      · have im := adh_L hm n1 n2 (K5 := fun (_ : Unit) => (if (μ.1 5) = 30 then (f_X5_no (va_up μ.1 0 (0 : Int32)) 2).bind fun v15 : Int32 × (Nat → Int32) => some (v15.1, v15.2, μ.2.2.1) else gd (¬ ((μ.1 5) < 0 ∨ 30 ≤ (μ.1 5).toNatClampNeg)) (bd (upd μ.2.2.1 (μ.1 5).toNatClampNeg (II n)) fun w13 : Nat → Int32 => bd ((μ.1 5) + 1 : Int32) fun x14 : Int32 => some (x14, va_up (va_up μ.1 0 (0 : Int32)) 5 x14, w13)))) nh 0 (by omega) (fun i a => absurd a (Nat.not_lt_zero i)) N (by omega)
        have im := (im.resolve_right (fun k => k.1 cH)).2
        unfold q_addHoliday f_X5_addHoliday
        rw [e5, bi_e, if_neg (by decide), num_x5 n1 n2 (show 100 ≤ N by omega), bi_e]
        erw [im]
        rfl
    · have ic := (ic.resolve_left (fun k => cH k.1)).2
      have im := adh_L hm n1 n2 (K5 := fun (_ : Unit) => (if (μ.1 5) = 30 then (f_X5_no (va_up μ.1 0 (0 : Int32)) 2).bind fun v15 : Int32 × (Nat → Int32) => some (v15.1, v15.2, μ.2.2.1) else gd (¬ ((μ.1 5) < 0 ∨ 30 ≤ (μ.1 5).toNatClampNeg)) (bd (upd μ.2.2.1 (μ.1 5).toNatClampNeg (II n)) fun w13 : Nat → Int32 => bd ((μ.1 5) + 1 : Int32) fun x14 : Int32 => some (x14, va_up (va_up μ.1 0 (0 : Int32)) 5 x14, w13)))) nh 0 (by omega) (fun i a => absurd a (Nat.not_lt_zero i)) N (by omega)
      have im := (im.resolve_left (fun k => cH k.1)).2
      by_cases c30 : nh = 30
      · refine ok_x2 (E := "java/lang/IllegalStateException") (b := II 0) (M' := va_up (va_up μ.1 0 (II 0)) 0 (II 2)) hI ?_ (by decide) ?_ ((va_up_self _ _ _).trans (by decide)) (up2 _ _ _)
        · unfold f_X4_addHoliday f_X4_isHoliday
          rw [e1]
          simp (disch := omega) only [true_or, or_true, gd_T, bd_e, jn_e, bi_e, gd_t, it_e, ie_e, if_true, if_false, ii_lit, ii_add, ii_sub, ii_mul, ii_neg, ii_lt, ii_le, ii_eq, ii_nat, ii_div, ii_nI, ex_i, ic, k3]
        · unfold q_addHoliday f_X5_addHoliday
          rw [e5, bi_e, if_neg (by decide), num_x5 n1 n2 (show 100 ≤ N by omega), bi_e]
          erw [im]
          unfold f_X5_no
          simp (disch := omega) only [true_or, or_true, gd_T, bd_e, jn_e, bi_e, gd_t, it_e, ie_e, if_true, if_false, ii_lit, ii_add, ii_sub, ii_mul, ii_neg, ii_lt, ii_le, ii_eq, ii_nat, ii_div, ii_nI, hm.2.1, mp_e]
      · have hu : ∀ (f : Nat → Int32) (v : Int32) (k : Nat), upd f nh v k = if k = nh then v else f k := fun f v k => rfl
        refine ok_v2 (u := (II (nh + 1), va_up g.1 3 (II (nh + 1)), upd g.2.2.1 nh (II (DD n)))) (b := II (nh + 1)) (μ' := (va_up (va_up μ.1 0 (II 0)) 5 (II (nh + 1)), μ.2.1, upd μ.2.2.1 nh (II n), μ.2.2.2)) ?_ ?_ ?_ rfl ⟨td, nh + 1, fun k => if k = nh then n else hd k, rt, X, Y, ⟨t0, t1, r0, r1, hnb⟩, ⟨?_, ?_, ?_, ?_⟩, ⟨⟨by omega, ?_, ?_⟩, by omega, ?_, ?_⟩, ⟨?_, ?_, ?_⟩, h5, hB⟩
        · unfold f_X4_addHoliday f_X4_isHoliday
          rw [e1]
          simp (disch := omega) only [true_or, or_true, gd_T, bd_e, jn_e, bi_e, gd_t, it_e, ie_e, if_true, if_false, ii_lit, ii_add, ii_sub, ii_mul, ii_neg, ii_lt, ii_le, ii_eq, ii_nat, ii_div, ii_nI, ex_i, ic, k3, Int.toNat_natCast]
        · unfold q_addHoliday f_X5_addHoliday
          rw [e5, bi_e, if_neg (by decide), num_x5 n1 n2 (show 100 ≤ N by omega), bi_e]
          erw [im]
          simp (disch := omega) only [true_or, or_true, gd_T, bd_e, jn_e, bi_e, gd_t, it_e, ie_e, if_true, if_false, ii_lit, ii_add, ii_sub, ii_mul, ii_neg, ii_lt, ii_le, ii_eq, ii_nat, ii_div, ii_nI, hm.2.1, Int.toNat_natCast, mp_e]
        · simp [va_up]; rfl
        · simp [va_up]
        · simp [va_up, k4]
        · simp [va_up, k5]
        · simp [va_up, k7]
        · intro k hk
          show 0 ≤ (if k = nh then n else hd k) ∧ (if k = nh then n else hd k) ≤ 18627 ∧ upd g.2.2.1 nh (II (DD n)) k = II (DD (if k = nh then n else hd k))
          rw [hu]
          by_cases ck : k = nh
          · rw [if_pos ck, if_pos ck]
            exact ⟨n1, n2, rfl⟩
          · rw [if_neg ck, if_neg ck]
            exact hc.2.1 k (by omega)
        · intro k hk hk2
          show upd g.2.2.1 nh (II (DD n)) k = II 0
          rw [hu, if_neg (by omega)]
          exact hc.2.2 k (by omega) hk2
        · simp [va_up]
        · intro k hk
          show 0 ≤ (if k = nh then n else hd k) ∧ (if k = nh then n else hd k) ≤ 18627 ∧ upd μ.2.2.1 nh (II n) k = II (if k = nh then n else hd k)
          rw [hu]
          by_cases ck : k = nh
          · rw [if_pos ck, if_pos ck]
            exact ⟨n1, n2, rfl⟩
          · rw [if_neg ck, if_neg ck]
            exact hm.2.2 k (by omega)
        · simp [va_up, m1]
        · simp [va_up, m3]
        · simp [va_up, m4]
  · refine ok_x2 (E := "java/lang/IllegalArgumentException") (b := II 0) (M' := va_up (va_up μ.1 0 (II 0)) 0 (II 1)) hI ?_ (by decide) ?_ ((va_up_self _ _ _).trans (by decide)) (up2 _ _ _)
    · unfold f_X4_addHoliday
      rw [e1]
      simp (disch := omega) only [true_or, or_true, gd_T, bd_e, jn_e, bi_e, gd_t, it_e, ie_e, if_true, if_false, ii_lit, ii_add, ii_sub, ii_mul, ii_neg, ii_lt, ii_le, ii_eq, ii_nat, ii_div, ii_nI, ex_e]
    · unfold q_addHoliday f_X5_addHoliday f_X5_no
      rw [e5]
      simp (disch := omega) only [true_or, or_true, gd_T, bd_e, jn_e, bi_e, gd_t, it_e, ie_e, if_true, if_false, ii_lit, ii_add, ii_sub, ii_mul, ii_neg, ii_lt, ii_le, ii_eq, ii_nat, ii_div, ii_nI, mp_e]
