/-! pure: one bond is changed -/
theorem md_up {X Y : Nat → Int} {mof mdy : Nat → Int32} {i : Nat} (h : MD X Y mof mdy i) {k0 : Nat} (hk : k0 < 14) (h6 : k0 ≠ 6) (v : Int) : MD (va_up X k0 v) Y (upd mof (14 * i + k0) (II v)) mdy i := by
  refine ⟨h.1, fun k hk2 => ?_, fun j hj => h.2.2 j (by simpa [va_up, Ne.symm h6] using hj)⟩
  show (if 14 * i + k = 14 * i + k0 then II v else mof (14 * i + k)) = II (if k = k0 then v else X k)
  by_cases c : k = k0
  · rw [if_pos (by omega), if_pos c]
  · rw [if_neg (by omega), if_neg c]
    exact h.2.1 k hk2
theorem md_ne {X Y : Nat → Int} {mof mdy : Nat → Int32} {i j : Nat} (h : MD X Y mof mdy j) (hij : j ≠ i) {k0 : Nat} (hk : k0 < 14) (v : Int32) : MD X Y (upd mof (14 * i + k0) v) mdy j := by
  refine ⟨h.1, fun k hk2 => ?_, h.2.2⟩
  show (if 14 * j + k = 14 * i + k0 then v else mof (14 * j + k)) = II (X k)
  rw [if_neg (by omega)]
  exact h.2.1 k hk2
theorem inv_B {td : Int} {nh : Nat} {hd : Nat → Int} {rt : Int} {X Y : Nat → Nat → Int} {g : SG} {μ : SM} (h : Inv9 td nh hd rt X Y g μ) {i : Nat} {M' : Nat → Int32} (hM : ∀ k, k ≠ 0 → M' k = μ.1 k) {kc : Int64} {mof' B' : Nat → Int32} {X' : Nat → Int} (hW : WB X' (Y i)) (hC : CB X' (Y i) B' (g.2.2.2.2.2.2.1 i) (g.2.2.2.2.2.2.2.1 i) (g.2.2.2.2.2.2.2.2.1 i) (g.2.2.2.2.2.2.2.2.2 i)) (hD : MD X' (Y i) mof' μ.2.2.2.2.1 i) (hne : ∀ j, j ≠ i → ∀ X Y, MD X Y μ.2.2.2.1 μ.2.2.2.2.1 j → MD X Y mof' μ.2.2.2.2.1 j) : Inv (g.1, kc, g.2.2.1, g.2.2.2.1, g.2.2.2.2.1, va_up g.2.2.2.2.2.1 i B', g.2.2.2.2.2.2) (M', kc, μ.2.2.1, mof', μ.2.2.2.2.1, μ.2.2.2.2.2) := by
  obtain ⟨h1, h2, ⟨h3, h4, h5, h6⟩, ⟨h7, h8, h9⟩, ⟨-, hL⟩, h10⟩ := h
  refine ⟨td, nh, hd, rt, va_up X i X', Y, h1, h2, ⟨h3, h4, (hM 5 (by decide)).trans h5, h6⟩, ⟨(hM 1 (by decide)).trans h7, (hM 3 (by decide)).trans h8, (hM 4 (by decide)).trans h9⟩, ⟨rfl, hL⟩, fun j hj => ?_⟩
  show WB (va_up X i X' j) (Y j) ∧ CB (va_up X i X' j) (Y j) (va_up g.2.2.2.2.2.1 i B' j) (g.2.2.2.2.2.2.1 j) (g.2.2.2.2.2.2.2.1 j) (g.2.2.2.2.2.2.2.2.1 j) (g.2.2.2.2.2.2.2.2.2 j) ∧ MD (va_up X i X' j) (Y j) mof' μ.2.2.2.2.1 j
  by_cases c : j = i
  · subst c
    rw [va_up_self, va_up_self]
    exact ⟨hW, hC, hD⟩
  · rw [va_up_ne _ _ c, va_up_ne _ _ c]
    obtain ⟨a, b, d⟩ := h10 j hj
    exact ⟨a, b, hne j c _ _ d⟩
theorem yp_up {X Y : Nat → Int} {k0 : Nat} (hk : 5 ≤ k0) (v : Int) (j : Nat) : YP (va_up X k0 v) Y j = YP X Y j ∧ ∀ a b, DC (va_up X k0 v) a b = DC X a b := by
  have e3 : va_up X k0 v 3 = X 3 := va_up_ne _ _ (by omega)
  have e4 : va_up X k0 v 4 = X 4 := va_up_ne _ _ (by omega)
  unfold YP DC
  rw [e3, e4]
  exact ⟨rfl, fun _ _ => rfl⟩
theorem cb_S {X X' Y : Nat → Int} {B B' S : Nat → Int32} {T : Nat → Int64} {n : Nat} {ds : Nat → Int32} (h : CB X Y B S T n ds) (hk : ∀ k, k < 5 → X' k = X k) (hB : (n : Int) = X' 6 ∧ B' 1 = II (X' 5) ∧ B' 2 = II (X' 8) ∧ B' 3 = II (X' 7) ∧ B' 4 = II (X' 9) ∧ B' 6 = II (X' 11) ∧ B' 8 = II (X' 13) ∧ (0 < X' 11 → B' 5 = II (DD (X' 10))) ∧ (0 < X' 13 → B' 7 = II (DD (X' 12)))) : CB X' Y B' S T n ds := by
  obtain ⟨-, h2, h3⟩ := h
  refine ⟨hB, ?_, h3⟩
  have e : DC X' (X 0) (Y 1) = DC X (X 0) (Y 1) := by unfold DC; rw [hk 4 (by decide)]
  have e2 : YP X' Y 0 = YP X Y 0 := by unfold YP; rw [hk 3 (by decide), hk 4 (by decide)]
  rw [hk 0 (by decide), hk 1 (by decide), hk 2 (by decide), hk 3 (by decide), hk 4 (by decide), e, e2]
  exact h2
theorem ok_setSink {g : SG} {μ : SM} (hI : Inv g μ) {N : Nat} (hN : 10000 ≤ N) (a0 a1 a2 : Int32) : OkM Inv ["java/lang/IndexOutOfBoundsException", "java/lang/IllegalArgumentException", "java/lang/IllegalStateException"] Int32.toInt64 Int32.toInt64 g (k_setSink N g a0 a1 a2) (q_setSink N μ a0 a1 a2) := by
  obtain ⟨td, nh, hd, rt, X, Y, h9⟩ := id hI
  obtain ⟨⟨t0, t1, r0, r1, hnb⟩, ⟨k3, k4, k5, k7⟩, ⟨hc, hm⟩, ⟨m1, m3, m4⟩, ⟨hkc, hLG⟩, hB⟩ := id h9
  have m1z : (va_up μ.1 0 (II 0)) 1 = II td := (va_up_ne _ _ (by decide)).trans m1
  rcases bni hnb ((va_up_ne _ _ (by decide)).trans m4 : (va_up μ.1 0 (II 0)) 4 = II g.2.2.2.2.1) a0 with ⟨i, hi, rfl, f1, f5⟩ | ⟨f1, f5⟩
  · obtain ⟨hW, hC, hM⟩ := hB i hi
    have hi10 := hM.1
    have h5 := hW.2.1
    have eg := gone_c hC hW
    obtain ⟨p, p1, p2, rfl⟩ := rng a2
    rcases rdt a1 with ⟨fr, n1, n2, rfl, e1, e5⟩ | ⟨e1, e5⟩
    · by_cases cp : 0 ≤ p ∧ p ≤ 5000
      · by_cases c8 : X i 8 = 0
        · obtain ⟨X', hX'⟩ : ∃ X', X' = va_up (va_up (X i) 10 fr) 11 p := ⟨_, rfl⟩
          have hMD := md_up (md_up hM (k0 := 10) (by decide) (by decide) fr) (k0 := 11) (by decide) (by decide) p
          rw [← hX'] at hMD
          have hk : ∀ k, k ≠ 10 → k ≠ 11 → X' k = X i k := fun k a b => by rw [hX', va_up_ne _ _ b, va_up_ne _ _ a]
          have hkf : X' 10 = fr := by rw [hX']; simp [va_up]
          have hkp : X' 11 = p := by rw [hX']; simp [va_up]
          have hWB : WB X' (Y i) := by
            unfold WB at hW ⊢
            simp only [hk 0 (by decide) (by decide), hk 1 (by decide) (by decide), hk 2 (by decide) (by decide), hk 3 (by decide) (by decide), hk 4 (by decide) (by decide), hk 5 (by decide) (by decide), hk 6 (by decide) (by decide), hk 7 (by decide) (by decide), hk 8 (by decide) (by decide), hk 9 (by decide) (by decide), hk 12 (by decide) (by decide), hk 13 (by decide) (by decide), hkf, hkp]
            refine ⟨hW.1, hW.2.1, ?_, hW.2.2.2⟩
            have := hW.2.2.1
            omega
          obtain ⟨⟨hn, b1, b2, b3, b4, b6, b8, b5, b7⟩, -⟩ := id hC
          have hCB : CB X' (Y i) (va_up (va_up (g.2.2.2.2.2.1 i) 5 (II (DD fr))) 6 (II p)) (g.2.2.2.2.2.2.1 i) (g.2.2.2.2.2.2.2.1 i) (g.2.2.2.2.2.2.2.2.1 i) (g.2.2.2.2.2.2.2.2.2 i) := by
            refine cb_S hC (fun k hk9 => hk k (by omega) (by omega)) ?_
            simp only [hk 5 (by decide) (by decide), hk 6 (by decide) (by decide), hk 7 (by decide) (by decide), hk 8 (by decide) (by decide), hk 9 (by decide) (by decide), hk 12 (by decide) (by decide), hk 13 (by decide) (by decide), hkf, hkp]
            refine ⟨hn, ?_, ?_, ?_, ?_, ?_, ?_, ?_, ?_⟩ <;> simp [va_up, b1, b2, b3, b4, b6, b8] <;> assumption
          have i7 : X' 7 = (((X' 7).toNat : Nat) : Int) := by have := hWB.2.1; omega
          have w9 := hWB.2.1
          have lc := fbe_L hCB hWB (a := X' 6 - 1) (by omega) ((X' 6).toNat - (X' 7).toNat) (X' 7).toNat (X' 5) (by omega) w9.1 w9.2.1 N (by omega)
          have lm := lbe_L hMD hWB (a := X' 6 - 1) (by omega) ((X' 6).toNat - (X' 7).toNat) (X' 7).toNat (X' 5) (by omega) w9.1 w9.2.1 N (by omega)
          rw [← i7] at lc lm
          have hcl : f_X0_factorBehind N (va_up (va_up (g.2.2.2.2.2.1 i) 5 (II (DD fr))) 6 (II p)) (g.2.2.2.2.2.2.2.2.1 i) (g.2.2.2.2.2.2.2.2.2 i) (II (X' 6 - 1)) = some (II (LBk X' (Y i) ((X' 6).toNat - (X' 7).toNat) (X' 7).toNat (X' 5))) := by
            unfold f_X0_factorBehind
            rw [hCB.1.2.1, hCB.1.2.2.2.1]
            exact lc
          have hml : f_X5_leftBehind N (upd (upd μ.2.2.2.1 (14 * i + 10) (II fr)) (14 * i + 11) (II p)) μ.2.2.2.2.1 (II i) (II (X' 6 - 1)) = some (II (LBk X' (Y i) ((X' 6).toNat - (X' 7).toNat) (X' 7).toNat (X' 5))) := by
            unfold f_X5_leftBehind
            simp (disch := omega) only [true_or, or_true, gd_T, bd_e, jn_e, bi_e, gd_t, it_e, ie_e, if_true, if_false, ii_lit, ii_add, ii_sub, ii_mul, ii_neg, ii_lt, ii_le, ii_eq, ii_nat, ii_div, ii_nI, own_5 hMD, own_7 hMD]
            exact lm
          have hn6 := hCB.1.1
          have i10 : (14 * (i : Int) + 10).toNat = 14 * i + 10 := by omega
          have i11 : (14 * (i : Int) + 11).toNat = 14 * i + 11 := by omega
          have f_q : f_X4_requireThere (g.2.2.2.2.2.1 i) = some (.inl ()) := by
            unfold f_X4_requireThere
            simp (disch := omega) only [true_or, or_true, gd_T, bd_e, jn_e, bi_e, gd_t, it_e, ie_e, if_true, if_false, ii_lit, ii_add, ii_sub, ii_mul, ii_neg, ii_lt, ii_le, ii_eq, ii_nat, ii_div, ii_nI, eg]
          refine ok_v2 (u := (II (LBk X' (Y i) ((X' 6).toNat - (X' 7).toNat) (X' 7).toNat (X' 5)), va_up (va_up (g.2.2.2.2.2.1 i) 5 (II (DD fr))) 6 (II p))) (b := II (LBk X' (Y i) ((X' 6).toNat - (X' 7).toNat) (X' 7).toNat (X' 5))) (μ' := (va_up μ.1 0 (II 0), μ.2.1, μ.2.2.1, upd (upd μ.2.2.2.1 (14 * i + 10) (II fr)) (14 * i + 11) (II p), μ.2.2.2.2.1, μ.2.2.2.2.2)) ?_ ?_ (va_up_self μ.1 0 (II 0)) rfl ?_
          · unfold f_X4_setSink
            rw [f1]
            simp (disch := omega) only [true_or, or_true, gd_T, bd_e, jn_e, bi_e, gd_t, it_e, ie_e, if_true, if_false, ii_lit, ii_add, ii_sub, ii_mul, ii_neg, ii_lt, ii_le, ii_eq, ii_nat, ii_div, ii_nI, ll_lit, ll_add, ll_sub, ll_mul, ll_neg, ll_div, ii_toL, ll_toI, lz_gt, lz_lt, lz_le, lz_ge, lz_eq, ll_lt, ll_le, ll_eq, ex_i, e1, f_q, eg, Int.toNat_natCast, hn6, hcl]
          · unfold q_setSink f_X5_setSink
            simp (disch := omega) only [true_or, or_true, gd_T, bd_e, jn_e, bi_e, gd_t, it_e, ie_e, if_true, if_false, ii_lit, ii_add, ii_sub, ii_mul, ii_neg, ii_lt, ii_le, ii_eq, ii_nat, ii_div, ii_nI, ll_lit, ll_add, ll_sub, ll_mul, ll_neg, ll_div, ii_toL, ll_toI, lz_gt, lz_lt, lz_le, lz_ge, lz_eq, ll_lt, ll_le, ll_eq, f5, isin, e5, thr_m hM hW, num_x5 n1 n2 (show 100 ≤ N by omega), i10, i11, own_6 hMD, hml, mp_e]
          · have ei : (II (i : Int)).toNatClampNeg = i := by rw [ii_nat (by omega) (by omega)]; omega
            rw [ei, hkc]
            exact inv_B h9 (up1 _ _) hWB hCB hMD (fun j hj X Y hd => md_ne (md_ne hd hj (by decide) _) hj (by decide) _)
        · refine ok_x2 (E := "java/lang/IllegalStateException") (b := II 0) (M' := va_up (va_up μ.1 0 (II 0)) 0 (II 3)) hI ?_ (by decide) ?_ ((va_up_self _ _ _).trans (by decide)) (up2 _ _ _)
          · unfold f_X4_setSink f_X4_requireThere
            rw [f1]
            simp (disch := omega) only [true_or, or_true, gd_T, bd_e, jn_e, bi_e, gd_t, it_e, ie_e, if_true, if_false, ii_lit, ii_add, ii_sub, ii_mul, ii_neg, ii_lt, ii_le, ii_eq, ii_nat, ii_div, ii_nI, ll_lit, ll_add, ll_sub, ll_mul, ll_neg, ll_div, ii_toL, ll_toI, lz_gt, lz_lt, lz_le, lz_ge, lz_eq, ll_lt, ll_le, ll_eq, ex_i, ex_e, e1, Int.toNat_natCast, eg]
          · unfold q_setSink f_X5_setSink f_X5_no
            simp (disch := omega) only [true_or, or_true, gd_T, bd_e, jn_e, bi_e, gd_t, it_e, ie_e, if_true, if_false, ii_lit, ii_add, ii_sub, ii_mul, ii_neg, ii_lt, ii_le, ii_eq, ii_nat, ii_div, ii_nI, ll_lit, ll_add, ll_sub, ll_mul, ll_neg, ll_div, ii_toL, ll_toI, lz_gt, lz_lt, lz_le, lz_ge, lz_eq, ll_lt, ll_le, ll_eq, f5, isin, e5, thr_m hM hW, mp_e]
      · by_cases cp2 : p < 0
        · refine ok_x2 (E := "java/lang/IllegalArgumentException") (b := II 0) (M' := va_up (va_up μ.1 0 (II 0)) 0 (II 2)) hI ?_ (by decide) ?_ ((va_up_self _ _ _).trans (by decide)) (up2 _ _ _)
          · unfold f_X4_setSink
            rw [f1]
            simp (disch := omega) only [true_or, or_true, gd_T, bd_e, jn_e, bi_e, gd_t, it_e, ie_e, if_true, if_false, ii_lit, ii_add, ii_sub, ii_mul, ii_neg, ii_lt, ii_le, ii_eq, ii_nat, ii_div, ii_nI, ll_lit, ll_add, ll_sub, ll_mul, ll_neg, ll_div, ii_toL, ll_toI, lz_gt, lz_lt, lz_le, lz_ge, lz_eq, ll_lt, ll_le, ll_eq, ex_i, ex_e, e1]
          · unfold q_setSink f_X5_setSink f_X5_no
            simp (disch := omega) only [true_or, or_true, gd_T, bd_e, jn_e, bi_e, gd_t, it_e, ie_e, if_true, if_false, ii_lit, ii_add, ii_sub, ii_mul, ii_neg, ii_lt, ii_le, ii_eq, ii_nat, ii_div, ii_nI, ll_lit, ll_add, ll_sub, ll_mul, ll_neg, ll_div, ii_toL, ll_toI, lz_gt, lz_lt, lz_le, lz_ge, lz_eq, ll_lt, ll_le, ll_eq, f5, isin, e5, mp_e]
        · refine ok_x2 (E := "java/lang/IllegalArgumentException") (b := II 0) (M' := va_up (va_up μ.1 0 (II 0)) 0 (II 2)) hI ?_ (by decide) ?_ ((va_up_self _ _ _).trans (by decide)) (up2 _ _ _)
          · unfold f_X4_setSink
            rw [f1]
            simp (disch := omega) only [true_or, or_true, gd_T, bd_e, jn_e, bi_e, gd_t, it_e, ie_e, if_true, if_false, ii_lit, ii_add, ii_sub, ii_mul, ii_neg, ii_lt, ii_le, ii_eq, ii_nat, ii_div, ii_nI, ll_lit, ll_add, ll_sub, ll_mul, ll_neg, ll_div, ii_toL, ll_toI, lz_gt, lz_lt, lz_le, lz_ge, lz_eq, ll_lt, ll_le, ll_eq, ex_i, ex_e, e1]
          · unfold q_setSink f_X5_setSink f_X5_no
            simp (disch := omega) only [true_or, or_true, gd_T, bd_e, jn_e, bi_e, gd_t, it_e, ie_e, if_true, if_false, ii_lit, ii_add, ii_sub, ii_mul, ii_neg, ii_lt, ii_le, ii_eq, ii_nat, ii_div, ii_nI, ll_lit, ll_add, ll_sub, ll_mul, ll_neg, ll_div, ii_toL, ll_toI, lz_gt, lz_lt, lz_le, lz_ge, lz_eq, ll_lt, ll_le, ll_eq, f5, isin, e5, mp_e]
    · refine ok_x2 (E := "java/lang/IllegalArgumentException") (b := II 0) (M' := va_up (va_up μ.1 0 (II 0)) 0 (II 2)) hI ?_ (by decide) ?_ ((va_up_self _ _ _).trans (by decide)) (up2 _ _ _)
      · unfold f_X4_setSink
        rw [f1]
        simp (disch := omega) only [true_or, or_true, gd_T, bd_e, jn_e, bi_e, gd_t, it_e, ie_e, if_true, if_false, ii_lit, ii_add, ii_sub, ii_mul, ii_neg, ii_lt, ii_le, ii_eq, ii_nat, ii_div, ii_nI, ll_lit, ll_add, ll_sub, ll_mul, ll_neg, ll_div, ii_toL, ll_toI, lz_gt, lz_lt, lz_le, lz_ge, lz_eq, ll_lt, ll_le, ll_eq, ex_i, ex_e, e1]
      · unfold q_setSink f_X5_setSink f_X5_no
        simp (disch := omega) only [true_or, or_true, gd_T, bd_e, jn_e, bi_e, gd_t, it_e, ie_e, if_true, if_false, ii_lit, ii_add, ii_sub, ii_mul, ii_neg, ii_lt, ii_le, ii_eq, ii_nat, ii_div, ii_nI, ll_lit, ll_add, ll_sub, ll_mul, ll_neg, ll_div, ii_toL, ll_toI, lz_gt, lz_lt, lz_le, lz_ge, lz_eq, ll_lt, ll_le, ll_eq, f5, e5, mp_e]
  · refine ok_x2 (E := "java/lang/IndexOutOfBoundsException") (b := II 0) (M' := va_up (va_up μ.1 0 (II 0)) 0 (II 1)) hI ?_ (by decide) ?_ ((va_up_self _ _ _).trans (by decide)) (up2 _ _ _)
    · unfold f_X4_setSink
      rw [f1]
      simp (disch := omega) only [true_or, or_true, gd_T, bd_e, jn_e, bi_e, gd_t, it_e, ie_e, if_true, if_false, ii_lit, ii_add, ii_sub, ii_mul, ii_neg, ii_lt, ii_le, ii_eq, ii_nat, ii_div, ii_nI, ll_lit, ll_add, ll_sub, ll_mul, ll_neg, ll_div, ii_toL, ll_toI, lz_gt, lz_lt, lz_le, lz_ge, lz_eq, ll_lt, ll_le, ll_eq, ex_i, ex_e]
    · unfold q_setSink f_X5_setSink f_X5_no
      simp (disch := omega) only [true_or, or_true, gd_T, bd_e, jn_e, bi_e, gd_t, it_e, ie_e, if_true, if_false, ii_lit, ii_add, ii_sub, ii_mul, ii_neg, ii_lt, ii_le, ii_eq, ii_nat, ii_div, ii_nI, ll_lit, ll_add, ll_sub, ll_mul, ll_neg, ll_div, ii_toL, ll_toI, lz_gt, lz_lt, lz_le, lz_ge, lz_eq, ll_lt, ll_le, ll_eq, f5, isin, mp_e]
