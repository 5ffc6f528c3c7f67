/-! pure: addBond agrees, on -/
def W14 (s e p f w c b : Int32) : Nat → Int32 := upd (upd (upd (upd (upd (upd (upd (upd (upd (upd (upd (upd (upd (upd (fun _ => II 0) 0 s) 1 e) 2 p) 3 f) 4 w) 5 (II 10000)) 6 c) 7 b) 8 (II 0)) 9 (II 0)) 10 (II 0)) 11 (II 0)) 12 (II 0)) 13 (II 0)
theorem w14_k (s e p f w b : Int) (C : Nat) {k : Nat} (hk : k < 14) : W14 (II s) (II e) (II p) (II f) (II w) (II C) (II b) k = II (RW9 s e p f w b C k) := by
  rcases (show k = 0 ∨ k = 1 ∨ k = 2 ∨ k = 3 ∨ k = 4 ∨ k = 5 ∨ k = 6 ∨ k = 7 ∨ k = 8 ∨ k = 9 ∨ k = 10 ∨ k = 11 ∨ k = 12 ∨ k = 13 by omega) with rfl | rfl | rfl | rfl | rfl | rfl | rfl | rfl | rfl | rfl | rfl | rfl | rfl | rfl <;> rfl
theorem md_n {s e p f w b : Int} {C nb : Nat} {Y : Nat → Int} {mof dy : Nat → Int32} (hnb : nb < 10) (hY : ∀ j, j ≤ C → dy (121 * nb + j) = II (Y j)) : MD (RW9 s e p f w b C) Y (va_cpy (W14 (II s) (II e) (II p) (II f) (II w) (II C) (II b)) mof 0 (14 * nb) 14) dy nb := by
  refine ⟨hnb, fun k hk => ?_, fun j hj => hY j ?_⟩
  · unfold va_cpy
    rw [if_pos (by omega), show 0 + (14 * nb + k - 14 * nb) = k by omega]
    exact w14_k s e p f w b C hk
  · have hj : (j : Int) ≤ (C : Int) := hj
    omega
theorem md_o {X Y : Nat → Int} {mof mdy dy W : Nat → Int32} {i nb : Nat} (h : MD X Y mof mdy i) (h6 : X 6 ≤ 120) (hi : i < nb) (hY : ∀ q, q < 121 * nb → dy q = mdy q) : MD X Y (va_cpy W mof 0 (14 * nb) 14) dy i := by
  refine ⟨h.1, fun k hk => ?_, fun j hj => ?_⟩
  · unfold va_cpy
    rw [if_neg (by omega)]
    exact h.2.1 k hk
  · rw [hY _ (by omega)]
    exact h.2.2 j hj
theorem inv_A {td : Int} {nh : Nat} {hd : Nat → Int} {rt : Int} {X Y : Nat → Nat → Int} {g : SG} {μ : SM} (h : Inv9 td nh hd rt X Y g μ) (hnb : g.2.2.2.2.1 < 10) {X' Y' : Nat → Int} {B S : Nat → Int32} {T : Nat → Int64} {n : Nat} {ds : Nat → Int32} {W dy : Nat → Int32} (hW : WB X' Y') (hC : CB X' Y' B S T n ds) (hD : MD X' Y' (va_cpy W μ.2.2.2.1 0 (14 * g.2.2.2.2.1) 14) dy g.2.2.2.2.1) (hY : ∀ q, q < 121 * g.2.2.2.2.1 → dy q = μ.2.2.2.2.1 q) : Inv (gAdd g (va_up g.1 4 (II ((g.2.2.2.2.1 : Int) + 1))) S T n ds B) (va_up (va_up μ.1 0 (II 0)) 4 (II ((g.2.2.2.2.1 : Int) + 1)), μ.2.1, μ.2.2.1, va_cpy W μ.2.2.2.1 0 (14 * g.2.2.2.2.1) 14, dy, μ.2.2.2.2.2) := by
  obtain ⟨⟨t0, t1, r0, r1, hnb9⟩, ⟨k3, k4, k5, k7⟩, ⟨hc, hm⟩, ⟨m1, m3, m4⟩, hL, hB⟩ := h
  have hk' : ∀ k, k ≠ 4 → va_up g.1 4 (II ((g.2.2.2.2.1 : Int) + 1)) k = g.1 k := fun k h => va_up_ne _ _ h
  have ec : ((g.2.2.2.2.1 + 1 : Nat) : Int) = (g.2.2.2.2.1 : Int) + 1 := by omega
  have hm' : ∀ k, k ≠ 0 → k ≠ 4 → va_up (va_up μ.1 0 (II 0)) 4 (II ((g.2.2.2.2.1 : Int) + 1)) k = μ.1 k := fun k a b => by rw [va_up_ne _ _ b, va_up_ne _ _ a]
  refine ⟨td, nh, hd, rt, va_up X g.2.2.2.2.1 X', va_up Y g.2.2.2.2.1 Y', ⟨t0, t1, r0, r1, ?_⟩, ⟨(hk' 3 (by decide)).trans k3, (va_up_self g.1 4 (II ((g.2.2.2.2.1 : Int) + 1))).trans (congrArg II ec.symm), (hk' 5 (by decide)).trans k5, (hk' 7 (by decide)).trans k7⟩, ⟨hc, hm.1, (hm' 5 (by decide) (by decide)).trans hm.2.1, hm.2.2⟩, ⟨(hm' 1 (by decide) (by decide)).trans m1, (hm' 3 (by decide) (by decide)).trans m3, (va_up_self (va_up μ.1 0 (II 0)) 4 (II ((g.2.2.2.2.1 : Int) + 1))).trans (congrArg II ec.symm)⟩, hL, fun i hi => ?_⟩
  · show g.2.2.2.2.1 + 1 ≤ 10
    omega
  · have hi : i < g.2.2.2.2.1 + 1 := hi
    show WB (va_up X g.2.2.2.2.1 X' i) (va_up Y g.2.2.2.2.1 Y' i) ∧ CB (va_up X g.2.2.2.2.1 X' i) (va_up Y g.2.2.2.2.1 Y' i) (va_up g.2.2.2.2.2.1 g.2.2.2.2.1 B i) (va_up g.2.2.2.2.2.2.1 g.2.2.2.2.1 S i) (va_up g.2.2.2.2.2.2.2.1 g.2.2.2.2.1 T i) (va_up g.2.2.2.2.2.2.2.2.1 g.2.2.2.2.1 n i) (va_up g.2.2.2.2.2.2.2.2.2 g.2.2.2.2.1 ds i) ∧ MD (va_up X g.2.2.2.2.1 X' i) (va_up Y g.2.2.2.2.1 Y' i) (va_cpy W μ.2.2.2.1 0 (14 * g.2.2.2.2.1) 14) dy i
    by_cases c : i = g.2.2.2.2.1
    · subst c
      simp only [va_up_self]
      exact ⟨hW, hC, hD⟩
    · rw [va_up_ne _ _ c, va_up_ne _ _ c, va_up_ne _ _ c, va_up_ne _ _ c, va_up_ne _ _ c, va_up_ne _ _ c, va_up_ne _ _ c]
      obtain ⟨a, b, d⟩ := hB i (by omega)
      exact ⟨a, b, md_o d a.2.1.2.2.2.1 (by omega) hY⟩
set_option maxHeartbeats 8000000 in
theorem ok_addBond {g : SG} {μ : SM} (hI : Inv g μ) {N : Nat} (hN : 10000 ≤ N) (a0 a1 a2 a3 a4 : Int32) : OkM Inv ["java/lang/IllegalArgumentException", "java/lang/IllegalStateException"] Int32.toInt64 Int32.toInt64 g (k_addBond N g a0 a1 a2 a3 a4) (q_addBond N μ a0 a1 a2 a3 a4) := by
  obtain ⟨td, nh, hd, rt, X, Y0, h9⟩ := id hI
  obtain ⟨⟨t0, t1, r0, r1, hnb⟩, ⟨k3, k4, k5, k7⟩, ⟨hc, hm⟩, ⟨m1, m3, m4⟩, ⟨hkc, hLG⟩, hB⟩ := id h9
  have ez : II ((0 : Nat) : Int) = II 0 := rfl
  rcases adb_g t0 (show td ≤ 18627 by omega) k5 m1 μ.2.2.2.1 μ.2.2.2.2.1 hN a0 a1 a2 a3 a4 with ⟨s, e, p, w, f, m, s0, hse, h2, hte, hfm, p0, p1, w0, w1, rfl, rfl, rfl, rfl, rfl, lf, e5, g5⟩ | ⟨f1, f5⟩
  rotate_left
  · refine ok_x2 (E := "java/lang/IllegalArgumentException") (b := II 0) (M' := va_up (va_up μ.1 0 (II 0)) 0 (II 1)) hI f1 (by decide) ?_ ((va_up_self _ _ _).trans (by decide)) (up2 _ _ _)
    unfold q_addBond
    rw [f5]
    rfl
  have bs := dd_b s0 (show s ≤ 18627 by omega)
  have be := dd_b (show 0 ≤ e by omega) (show e ≤ 18627 by omega)
  have l1 := dd_le_iff (show 0 ≤ e by omega) (show e ≤ 18627 by omega) (show 0 ≤ (18567 : Int) by omega) (by omega)
  rw [dv_1101] at l1
  have k1 : DD e ≤ 20661101 := by rw [l1]; exact h2
  have l2 := dd_lt s0 hse (show e ≤ 18627 by omega)
  have en := num_x5 (show 0 ≤ e by omega) (show e ≤ 18627 by omega) (show 100 ≤ N by omega)
  have es := num_x5 s0 (show s ≤ 18627 by omega) (show 100 ≤ N by omega)
  have rf := fm_r hfm
  have tt := trm_c hfm p0 p1 w0 w1
  obtain ⟨C, hC⟩ := ct_ex hfm s0 hse (show e ≤ 18627 by omega)
  obtain ⟨c1, c2, c3, c4, c5⟩ := id hC
  have cc := cc_L hfm s0 hse (show e ≤ 18627 by omega) hC (if C ≤ 120 then C else 121) 0 (Nat.zero_add _) N (by split <;> omega)
  have cm := fun K20 => cm_L hfm s0 hse (show e ≤ 18627 by omega) hC (K20 := K20) C 0 (by omega) N (by omega)
  rw [ez] at cc cm
  have bC := fm_b hfm (x := (C : Int)) (by omega)
  have mb := mb_b (show 0 ≤ e by omega) (show e ≤ 18627 by omega) bC.1 c4
  have dx := db_x hfm (show 0 ≤ e by omega) (show e ≤ 18627 by omega) (x := C) (by omega) (by omega) c4
  have d5 := db_5 hfm (show 0 ≤ e by omega) (show e ≤ 18627 by omega) (x := C) (by omega) (by omega) c4
  have hmc : m * (C : Int) = C * m := Int.mul_comm _ _
  have mv := mb_x5 (show 0 ≤ e by omega) (show e ≤ 18627 by omega) bC.1 c4
  have gt : f_X5_addBond N μ.1 μ.2.2.2.1 μ.2.2.2.2.1 (II (DD s)) (II (DD e)) (II p) (II f) (II w) = AB9 N μ.1 μ.2.2.2.1 μ.2.2.2.2.1 (II (DD s)) (II (DD e)) (II p) (II f) (II w) (II C) := by
    rw [addb_u]
    unfold f_X5_no
    simp (disch := omega) only [true_or, or_true, gd_T, bd_e, jn_e, bi_e, gd_t, it_e, ie_e, if_true, if_false, ii_lit, ii_add, ii_sub, ii_mul, ii_neg, ii_lt, ii_le, ii_eq, ii_nat, ii_div, ii_nI, e5, g5, en, m1, isin, fm_j hfm, it_k, cm]
  by_cases cC : C ≤ 120
  case neg =>
    rw [if_neg cC] at cc
    refine ok_x2 (E := "java/lang/IllegalArgumentException") (b := II 0) (M' := va_up (va_up μ.1 0 (II 0)) 0 (II 1)) hI ?_ (by decide) ?_ ((va_up_self _ _ _).trans (by decide)) (up2 _ _ _)
    · unfold f_X4_addBond f_X3_countCoupons
      simp (disch := omega) only [true_or, or_true, gd_T, bd_e, jn_e, bi_e, gd_t, it_e, ie_e, if_true, if_false, ii_lit, ii_add, ii_sub, ii_mul, ii_neg, ii_lt, ii_le, ii_eq, ii_nat, ii_div, ii_nI, lf, tt, ex_i, cc]
    · unfold q_addBond
      rw [gt]
      unfold AB9 f_X5_no
      simp (disch := omega) only [true_or, or_true, gd_T, bd_e, jn_e, bi_e, gd_t, it_e, ie_e, if_true, if_false, ii_lit, ii_add, ii_sub, ii_mul, ii_neg, ii_lt, ii_le, ii_eq, ii_nat, ii_div, ii_nI, mp_e]
  rw [if_pos cC] at cc
  by_cases c16 : 20160101 ≤ MB e (C * m)
  case neg =>
    refine ok_x2 (E := "java/lang/IllegalArgumentException") (b := II 0) (M' := va_up (va_up μ.1 0 (II 0)) 0 (II 1)) hI ?_ (by decide) ?_ ((va_up_self _ _ _).trans (by decide)) (up2 _ _ _)
    · unfold f_X4_addBond f_X3_countCoupons
      simp (disch := omega) only [true_or, or_true, gd_T, bd_e, jn_e, bi_e, gd_t, it_e, ie_e, if_true, if_false, ii_lit, ii_add, ii_sub, ii_mul, ii_neg, ii_lt, ii_le, ii_eq, ii_nat, ii_div, ii_nI, lf, tt, ex_i, cc, dx]
    · unfold q_addBond
      rw [gt]
      unfold AB9 f_X5_no
      simp (disch := omega) only [true_or, or_true, gd_T, bd_e, jn_e, bi_e, gd_t, it_e, ie_e, if_true, if_false, ii_lit, ii_add, ii_sub, ii_mul, ii_neg, ii_lt, ii_le, ii_eq, ii_nat, ii_div, ii_nI, fm_d hfm, hmc, mv, mp_e]
  by_cases cnb : g.2.2.2.2.1 = 10
  case pos =>
    have k4x : g.1 4 = II 10 := by rw [k4, cnb]; rfl
    have m4x : μ.1 4 = II 10 := by rw [m4, cnb]; rfl
    refine ok_x2 (E := "java/lang/IllegalStateException") (b := II 0) (M' := va_up (va_up μ.1 0 (II 0)) 0 (II 2)) hI ?_ (by decide) ?_ ((va_up_self _ _ _).trans (by decide)) (up2 _ _ _)
    · unfold f_X4_addBond f_X3_countCoupons
      simp (disch := omega) only [true_or, or_true, gd_T, bd_e, jn_e, bi_e, gd_t, it_e, ie_e, if_true, if_false, ii_lit, ii_add, ii_sub, ii_mul, ii_neg, ii_lt, ii_le, ii_eq, ii_nat, ii_div, ii_nI, lf, tt, ex_i, cc, dx, k4x]
    · unfold q_addBond
      rw [gt]
      unfold AB9 f_X5_no
      simp (disch := omega) only [true_or, or_true, gd_T, bd_e, jn_e, bi_e, gd_t, it_e, ie_e, if_true, if_false, ii_lit, ii_add, ii_sub, ii_mul, ii_neg, ii_lt, ii_le, ii_eq, ii_nat, ii_div, ii_nI, fm_d hfm, hmc, mv, m4x, mp_e]
  obtain ⟨Y, hY⟩ := dy_ex hfm s0 hse (show e ≤ 18627 by omega) hC c16
  have hW := wb_n hfm s0 hse h2 p0 p1 w0 w1 hC cC hY hte
  obtain ⟨f1, f2, f3, f4, f5⟩ := dy_f hfm s0 hse (show e ≤ 18627 by omega) hC hY
  obtain ⟨ds, hds, i1, i2⟩ := ini_n hfm s0 hse h2 p0 p1 w0 w1 hC cC hY t0 hte hN
  have hCB := cb_n (s := s) (e := e) (p := p) (f := f) (m := m) (w := w) (b := FB Y td C 0) hds
  have w4 : (va_up μ.1 0 (II 0)) 4 = II g.2.2.2.2.1 := (va_up_ne _ _ (by decide)).trans m4
  have w1' : (va_up μ.1 0 (II 0)) 1 = II td := (va_up_ne _ _ (by decide)).trans m1
  obtain ⟨dy, d1, d2, d3⟩ := dys_m hfm s0 hse (show e ≤ 18627 by omega) cC hY (show g.2.2.2.2.1 < 10 by omega) (N0 := N) (by omega) (w34 := va_up μ.1 0 (II 0)) (w35 := μ.2.2.2.1) w4 (C + 1) 0 μ.2.2.2.2.1 (by omega) N (by omega)
  have nx := fun K50 => nx_m cC (show g.2.2.2.2.1 < 10 by omega) t0 (show td ≤ 18627 by omega) (w38 := va_up μ.1 0 (II 0)) (w40 := dy) w4 w1' (by omega) (fun j hj => ⟨d1 j (by omega) hj, (hY j hj).1, (hY j hj).2.1⟩) (K50 := K50) (C - 1) 0 (by omega) N (by omega)
  have eC : C - 1 + 1 = C := by omega
  rw [ez] at d3 nx
  rw [eC] at nx
  have e14 : (14 * (g.2.2.2.2.1 : Int)).toNat = 14 * g.2.2.2.2.1 := by omega
  refine ok_v2 (u := (II ((g.2.2.2.2.1 : Int) + 1 - 1), va_up g.1 4 (II ((g.2.2.2.2.1 : Int) + 1)), va_up (va_up (va_up (va_up (va_up (va_up (fun _ => II 0) 0 (II (DD s))) 1 (II (DD e))) 2 (II p)) 3 (II f)) 4 (II w)) 5 (II (DD (Y 0))), va_up (va_up (fun _ => LL 0) 7 (LL (DC (RW9 s e p f w (FB Y td C 0) C) s (Y 1)))) 8 (LL (YP (RW9 s e p f w (FB Y td C 0) C) Y 0)), C, ds, va_up (va_up (fun _ => II 0) 1 (II 10000)) 3 (II (FB Y td C 0)))) (b := II ((g.2.2.2.2.1 : Int) + 1 - 1)) (μ' := (va_up (va_up μ.1 0 (II 0)) 4 (II ((g.2.2.2.2.1 : Int) + 1)), μ.2.1, μ.2.2.1, va_cpy (W14 (II s) (II e) (II p) (II f) (II w) (II C) (II (FB Y td C 0))) μ.2.2.2.1 0 (14 * g.2.2.2.2.1) 14, dy, μ.2.2.2.2.2)) ?_ ?_ ?_ rfl (inv_A h9 (by omega) hW hCB (md_n (by omega) (fun j hj => d1 j (by omega) hj)) (fun q hq => d2 q (by omega)))
  · unfold f_X4_addBond f_X3_countCoupons
    simp (disch := omega) only [true_or, or_true, gd_T, bd_e, jn_e, bi_e, gd_t, it_e, ie_e, if_true, if_false, ii_lit, ii_add, ii_sub, ii_mul, ii_neg, ii_lt, ii_le, ii_eq, ii_nat, ii_div, ii_nI, lf, tt, ex_i, cc, dx, k4, k5, i1, i2]
  · unfold q_addBond
    rw [gt]
    unfold AB9
    simp (disch := omega) only [true_or, or_true, gd_T, bd_e, jn_e, bi_e, gd_t, it_e, ie_e, if_true, if_false, ii_lit, ii_add, ii_sub, ii_mul, ii_neg, ii_lt, ii_le, ii_eq, ii_nat, ii_div, ii_nI, en, es, fm_d hfm, hmc, mv, m4, w4, d3, nx, e14, mp_e] <;> rfl
  · show va_up (va_up μ.1 0 (II 0)) 4 (II ((g.2.2.2.2.1 : Int) + 1)) 0 = 0
    rw [va_up_ne _ _ (show 0 ≠ 4 by decide)]
    exact va_up_self μ.1 0 (II 0)
