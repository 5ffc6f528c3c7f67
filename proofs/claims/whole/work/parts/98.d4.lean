/-! pure: addBond agrees -/
/-- the reference, behind its count of coupon dates -/
def AB9 (N : Nat) (M : Nat → Int32) (mof : Nat → Int32) (mdy : Nat → Int32) (a0 : Int32) (a1 : Int32) (a2 : Int32) (a3 : Int32) (a4 : Int32) (x21 : Int32) : Option (Int32 × (Nat → Int32) × (Nat → Int32) × (Nat → Int32)) :=
  (if 120 < x21 then (f_X5_no (va_up M 0 (0 : Int32)) 1).bind fun v28 : Int32 × (Nat → Int32) => some (v28.1, v28.2, mof, mdy) else gd (¬ a3 = 0) ((f_X5_moved a1 ((12 / a3) * x21)).bind fun v30 : Int32 => (if 20160101 ≤ v30 then (if (M 4) = 10 then (f_X5_no (va_up M 0 (0 : Int32)) 2).bind fun v92 : Int32 × (Nat → Int32) => some (v92.1, v92.2, mof, mdy) else f_X5_addBond_L172 x21 a3 a1 N (fun (w38 : Nat → Int32) (w39 : Nat → Int32) (w40 : Nat → Int32) => f_X5_addBond_L221 w38 w40 (fun (x51 : Int32) => (f_X5_number N a0).bind fun v58 : Int32 => gd (¬ ((0 : Int32) < 0 ∨ 14 ≤ (0 : Int32).toNatClampNeg)) (bd (upd (fun _ => 0) (0 : Int32).toNatClampNeg v58) fun w60 : Nat → Int32 => (f_X5_number N a1).bind fun v61 : Int32 => gd (¬ ((1 : Int32) < 0 ∨ 14 ≤ (1 : Int32).toNatClampNeg)) (bd (upd w60 (1 : Int32).toNatClampNeg v61) fun w63 : Nat → Int32 => gd (¬ ((2 : Int32) < 0 ∨ 14 ≤ (2 : Int32).toNatClampNeg)) (bd (upd w63 (2 : Int32).toNatClampNeg a2) fun w65 : Nat → Int32 => gd (¬ ((3 : Int32) < 0 ∨ 14 ≤ (3 : Int32).toNatClampNeg)) (bd (upd w65 (3 : Int32).toNatClampNeg a3) fun w67 : Nat → Int32 => gd (¬ ((4 : Int32) < 0 ∨ 14 ≤ (4 : Int32).toNatClampNeg)) (bd (upd w67 (4 : Int32).toNatClampNeg a4) fun w69 : Nat → Int32 => gd (¬ ((5 : Int32) < 0 ∨ 14 ≤ (5 : Int32).toNatClampNeg)) (bd (upd w69 (5 : Int32).toNatClampNeg (10000 : Int32)) fun w71 : Nat → Int32 => gd (¬ ((6 : Int32) < 0 ∨ 14 ≤ (6 : Int32).toNatClampNeg)) (bd (upd w71 (6 : Int32).toNatClampNeg x21) fun w73 : Nat → Int32 => gd (¬ ((7 : Int32) < 0 ∨ 14 ≤ (7 : Int32).toNatClampNeg)) (bd (upd w73 (7 : Int32).toNatClampNeg x51) fun w75 : Nat → Int32 => gd (¬ ((8 : Int32) < 0 ∨ 14 ≤ (8 : Int32).toNatClampNeg)) (bd (upd w75 (8 : Int32).toNatClampNeg (0 : Int32)) fun w77 : Nat → Int32 => gd (¬ ((9 : Int32) < 0 ∨ 14 ≤ (9 : Int32).toNatClampNeg)) (bd (upd w77 (9 : Int32).toNatClampNeg (0 : Int32)) fun w79 : Nat → Int32 => gd (¬ ((10 : Int32) < 0 ∨ 14 ≤ (10 : Int32).toNatClampNeg)) (bd (upd w79 (10 : Int32).toNatClampNeg (0 : Int32)) fun w81 : Nat → Int32 => gd (¬ ((11 : Int32) < 0 ∨ 14 ≤ (11 : Int32).toNatClampNeg)) (bd (upd w81 (11 : Int32).toNatClampNeg (0 : Int32)) fun w83 : Nat → Int32 => gd (¬ ((12 : Int32) < 0 ∨ 14 ≤ (12 : Int32).toNatClampNeg)) (bd (upd w83 (12 : Int32).toNatClampNeg (0 : Int32)) fun w85 : Nat → Int32 => gd (¬ ((13 : Int32) < 0 ∨ 14 ≤ (13 : Int32).toNatClampNeg)) (bd (upd w85 (13 : Int32).toNatClampNeg (0 : Int32)) fun w87 : Nat → Int32 => gd (¬ (14 * (w38 4)) < 0) (gd ((14 * (w38 4)).toNatClampNeg + (14 : Int32).toNatClampNeg ≤ 140) (bd (va_cpy w87 w39 (0 : Int32).toNatClampNeg (14 * (w38 4)).toNatClampNeg (14 : Int32).toNatClampNeg) fun w90 : Nat → Int32 => bd ((w38 4) + 1 : Int32) fun x91 : Int32 => some (x91 - 1, va_up w38 4 x91, w90, w40)))))))))))))))))) N 0) N 0 (va_up M 0 (0 : Int32)) mof mdy) else (f_X5_no (va_up M 0 (0 : Int32)) 1).bind fun v93 : Int32 × (Nat → Int32) => some (v93.1, v93.2, mof, mdy))))
theorem addb_u (N : Nat) (M : Nat → Int32) (mof : Nat → Int32) (mdy : Nat → Int32) (a0 : Int32) (a1 : Int32) (a2 : Int32) (a3 : Int32) (a4 : Int32) : f_X5_addBond N M mof mdy a0 a1 a2 a3 a4 = ((f_X5_isDate a0).bind fun v1 : Int32 => (if v1 = 0 then (f_X5_no (va_up M 0 (0 : Int32)) 1).bind fun v3 : Int32 × (Nat → Int32) => some (v3.1, v3.2, mof, mdy) else (f_X5_isDate a1).bind fun v4 : Int32 => (if v4 = 0 then (f_X5_no (va_up M 0 (0 : Int32)) 1).bind fun v6 : Int32 × (Nat → Int32) => some (v6.1, v6.2, mof, mdy) else (if 20661101 < a1 then (f_X5_no (va_up M 0 (0 : Int32)) 1).bind fun v8 : Int32 × (Nat → Int32) => some (v8.1, v8.2, mof, mdy) else (if a1 ≤ a0 then (f_X5_no (va_up M 0 (0 : Int32)) 1).bind fun v10 : Int32 × (Nat → Int32) => some (v10.1, v10.2, mof, mdy) else (f_X5_number N a1).bind fun v11 : Int32 => (if (M 1) < v11 then (f_X5_isIn a2 0 2000).bind fun v13 : Int32 => (if v13 = 0 then (f_X5_no (va_up M 0 (0 : Int32)) 1).bind fun v15 : Int32 × (Nat → Int32) => some (v15.1, v15.2, mof, mdy) else jn (fun (_ : Unit) => (f_X5_isIn a4 0 3).bind fun v17 : Int32 => (if v17 = 0 then (f_X5_no (va_up M 0 (0 : Int32)) 1).bind fun v94 : Int32 × (Nat → Int32) => some (v94.1, v94.2, mof, mdy) else f_X5_addBond_L102 a3 a1 a0 (AB9 N M mof mdy a0 a1 a2 a3 a4) N 0)) fun K16 => (if a3 = 1 then K16 () else (if a3 = 2 then K16 () else (if a3 = 4 then K16 () else (if a3 = 12 then K16 () else (f_X5_no (va_up M 0 (0 : Int32)) 1).bind fun v99 : Int32 × (Nat → Int32) => some (v99.1, v99.2, mof, mdy)))))) else (f_X5_no (va_up M 0 (0 : Int32)) 1).bind fun v100 : Int32 × (Nat → Int32) => some (v100.1, v100.2, mof, mdy))))))) := rfl
def RW9 (s e p f w b : Int) (C : Nat) : Nat → Int := fun k => match k with
  | 0 => s
  | 1 => e
  | 2 => p
  | 3 => f
  | 4 => w
  | 5 => 10000
  | 6 => C
  | 7 => b
  | _ => 0
theorem wb_n {s e p f m w td : Int} {C : Nat} {Y : Nat → Int} (h : FM9 f m) (s0 : 0 ≤ s) (hse : s < e) (h2 : e ≤ 18567) (p0 : 0 ≤ p) (p1 : p ≤ 2000) (w0 : 0 ≤ w) (w1 : w ≤ 3) (hC : CT s e m C) (hC1 : C ≤ 120) (hY : DY e m C Y) (hte : td < e) : WB (RW9 s e p f w (FB Y td C 0) C) Y := by
  obtain ⟨f1, f2, f3, f4, f5⟩ := dy_f h s0 hse (show e ≤ 18627 by omega) hC hY
  have r := fm_r h
  have fr := fb_r Y td C 0
  have hlt : FB Y td C 0 < C := by
    apply Decidable.byContradiction
    intro hc
    have := fr.2.2.2 (C - 1) (by omega) (by have := hC.1; omega)
    have e1 : C - 1 + 1 = C := by have := hC.1; omega
    rw [e1, f5] at this
    omega
  have c1 := hC.1
  refine ⟨⟨s0, hse, h2, p0, p1, ?_, w0, w1⟩, ⟨?_, ?_, ?_, ?_, ?_, ?_, ?_, ?_, ?_, ?_⟩, ⟨?_, ?_, ?_, ?_, ?_, ?_, ?_, ?_⟩, ⟨f1, f2, f3, fun j hj => f4 j ?_, ?_⟩, ?_, ?_⟩
  · show f = 1 ∨ f = 2 ∨ f = 4 ∨ f = 12
    have := r.2.2.2.2; omega
  all_goals first
    | (show (0 : Int) ≤ 10000; decide)
    | (show (10000 : Int) ≤ 10000; decide)
    | (show (1 : Int) ≤ (C : Int); omega)
    | (show (C : Int) ≤ 120; omega)
    | (show (0 : Int) ≤ (FB Y td C 0 : Int); omega)
    | (show ((FB Y td C 0 : Nat) : Int) ≤ (C : Int); omega)
    | (show (0 : Int) ≤ 0; decide)
    | (show (0 : Int) ≤ 2; decide)
    | (show (0 : Int) ≤ 1000; decide)
    | (show (0 : Int) ≤ 5000; decide)
    | (show (0 : Int) ≤ 18627; decide)
    | (show (0 : Int) ≤ 15000; decide)
    | (have hj : (j : Int) < (C : Int) := hj; omega)
    | (show Y ((C : Int)).toNat = e; rw [Int.toNat_natCast]; exact f5)
    | (intro _; show ((FB Y td C 0 : Nat) : Int) < (C : Int); omega)
    | (intro _; rfl)
theorem cb_n {s e p f m w b : Int} {C : Nat} {Y : Nat → Int} {ds : Nat → Int32} (hds : ∀ j : Nat, j < C → ds j = II (DD (Y (j + 1)))) : CB (RW9 s e p f w b C) Y (va_up (va_up (fun _ => II 0) 1 (II 10000)) 3 (II b)) (va_up (va_up (va_up (va_up (va_up (va_up (fun _ => II 0) 0 (II (DD s))) 1 (II (DD e))) 2 (II p)) 3 (II f)) 4 (II w)) 5 (II (DD (Y 0)))) (va_up (va_up (fun _ => LL 0) 7 (LL (DC (RW9 s e p f w b C) s (Y 1)))) 8 (LL (YP (RW9 s e p f w b C) Y 0))) C ds :=
  ⟨⟨rfl, rfl, rfl, rfl, rfl, rfl, rfl, fun h => absurd (show (0 : Int) < 0 from h) (by decide), fun h => absurd (show (0 : Int) < 0 from h) (by decide)⟩, ⟨rfl, rfl, rfl, rfl, rfl, rfl, rfl, rfl⟩, hds⟩
set_option maxHeartbeats 4000000 in
theorem ini_n {s e p f m w td : Int} {C : Nat} {Y : Nat → Int} (h : FM9 f m) (s0 : 0 ≤ s) (hse : s < e) (h2 : e ≤ 18567) (p0 : 0 ≤ p) (p1 : p ≤ 2000) (w0 : 0 ≤ w) (w1 : w ≤ 3) (hC : CT s e m C) (hC1 : C ≤ 120) (hY : DY e m C Y) (t0 : 0 ≤ td) (hte : td < e) {N : Nat} (hN : 10000 ≤ N) : ∃ ds : Nat → Int32, (∀ j : Nat, j < C → ds j = II (DD (Y (j + 1)))) ∧ f_X3_init N (II (DD s)) (II (DD e)) (II p) (II f) (II w) (II C) = some (va_up (va_up (va_up (va_up (va_up (va_up (fun _ => II 0) 0 (II (DD s))) 1 (II (DD e))) 2 (II p)) 3 (II f)) 4 (II w)) 5 (II (DD (Y 0))), va_up (va_up (fun _ => LL 0) 7 (LL (DC (RW9 s e p f w (FB Y td C 0) C) s (Y 1)))) 8 (LL (YP (RW9 s e p f w (FB Y td C 0) C) Y 0)), C, ds) ∧ f_X0_init N C ds (II (DD td)) = some (va_up (va_up (fun _ => II 0) 1 (II 10000)) 3 (II (FB Y td C 0))) := by
  have ez : II ((0 : Nat) : Int) = II 0 := rfl
  obtain ⟨f1, f2, f3, f4, f5⟩ := dy_f h s0 hse (show e ≤ 18627 by omega) hC hY
  obtain ⟨y1, y2, y3, y4⟩ := hY 0 (by omega)
  have e0 : ((C : Int) - ((0 : Nat) : Int)) = C := by omega
  rw [e0] at y3 y4
  have c1 := hC.1
  obtain ⟨z1, z2, -⟩ := hY 1 (by omega)
  obtain ⟨ds, d1, d2, d3⟩ := dys_c h s0 hse (show e ≤ 18627 by omega) (show C ≤ 623 by omega) hY (w7 := va_up (va_up (va_up (va_up (va_up (va_up (fun _ => II 0) 0 (II (DD s))) 1 (II (DD e))) 2 (II p)) 3 (II f)) 4 (II w)) 5 (II (DD (Y 0)))) (w8 := fun _ => LL 0) C 0 (fun _ => II 0) (by omega) N (by omega)
  rw [ez] at d3
  have hds : ∀ j : Nat, j < C → ds j = II (DD (Y (j + 1))) := fun j hj => d1 j (by omega) hj
  have hW := wb_n h s0 hse h2 p0 p1 w0 w1 hC hC1 hY hte
  have hCB := cb_n (s := s) (e := e) (p := p) (f := f) (m := m) (w := w) (b := FB Y td C 0) hds
  refine ⟨ds, hds, ?_, ?_⟩
  · have ed := db_x (e := e) h (by omega) (show e ≤ 18627 by omega) (x := C) (by omega) (by omega) (by omega)
    rw [← y3] at ed
    have q1 := dc_c hCB hW s0 (show s ≤ Y 1 by omega) z2
    have q2 := yp_c hCB hW (j := 0) (by omega)
    rw [ez] at q2
    have hd0 : ds 0 = II (DD (Y 1)) := hds 0 (by omega)
    have r0 := fm_r h
    unfold f_X3_init
    simp (disch := omega) only [true_or, or_true, gd_T, bd_e, jn_e, bi_e, gd_t, it_e, ie_e, if_true, if_false, ii_lit, ii_add, ii_sub, ii_mul, ii_neg, ii_lt, ii_le, ii_eq, ii_nat, ii_div, ii_nI, ll_lit, ll_add, ll_sub, ll_mul, ll_neg, ll_div, ii_toL, ll_toI, lz_gt, lz_lt, lz_le, lz_ge, lz_eq, ll_lt, ll_le, ll_eq, ed, Int.toNat_natCast, Int.toNat_zero, d3, hd0, q1, q2]
  · have q3 := fbh_e hCB hW t0 (show td ≤ 18627 by omega) (N := N) (by omega)
    have e6 : (RW9 s e p f w (FB Y td C 0) C 6).toNat = C := Int.toNat_natCast C
    rw [e6] at q3
    unfold f_X0_init
    simp (disch := omega) only [true_or, or_true, gd_T, bd_e, jn_e, bi_e, gd_t, it_e, ie_e, if_true, if_false, ii_lit, ii_add, ii_sub, ii_mul, ii_neg, ii_lt, ii_le, ii_eq, ii_nat, ii_div, ii_nI, q3]
set_option maxHeartbeats 4000000 in
theorem adb_g {K M : Nat → Int32} {td : Int} (t0 : 0 ≤ td) (t1 : td ≤ 18627) (hK : K 5 = II (DD td)) (hM : M 1 = II td) (mof mdy : Nat → Int32) {N : Nat} (hN : 10000 ≤ N) (a0 a1 a2 a3 a4 : Int32) : (∃ s e p w f m, 0 ≤ s ∧ s < e ∧ e ≤ 18567 ∧ td < e ∧ FM9 f m ∧ 0 ≤ p ∧ p ≤ 2000 ∧ 0 ≤ w ∧ w ≤ 3 ∧ a0 = II (DD s) ∧ a1 = II (DD e) ∧ a2 = II p ∧ a3 = II f ∧ a4 = II w ∧ f_X4_requireLife K (II (DD s)) (II (DD e)) = some (.inl ()) ∧ f_X5_isDate (II (DD s)) = some (II 1) ∧ f_X5_isDate (II (DD e)) = some (II 1)) ∨ (f_X4_addBond N K a0 a1 a2 a3 a4 = some (.inr "java/lang/IllegalArgumentException") ∧ f_X5_addBond N M mof mdy a0 a1 a2 a3 a4 = some (II 0, va_up (va_up M 0 (II 0)) 0 (II 1), mof, mdy)) := by
  rcases rdt a0 with ⟨s, s0, s1, rfl, e1, e5⟩ | ⟨e1, e5⟩
  rotate_left
  · right
    constructor
    · unfold f_X4_addBond f_X4_requireLife
      rw [e1]
      rfl
    · rw [addb_u]
      unfold f_X5_no
      rw [e5, bi_e, if_pos (show II 0 = (0 : Int32) from (ii_lit 0).symm)]
      rfl
  rcases rdt a1 with ⟨e, n0, n1, rfl, g1, g5⟩ | ⟨g1, g5⟩
  rotate_left
  · right
    constructor
    · unfold f_X4_addBond f_X4_requireLife
      rw [e1, ex_i, g1]
      rfl
    · rw [addb_u]
      unfold f_X5_no
      rw [e5, bi_e, if_neg (by decide), g5, bi_e, if_pos (show II 0 = (0 : Int32) from (ii_lit 0).symm)]
      rfl
  have bs := dd_b s0 s1
  have be := dd_b n0 n1
  have bt := dd_b t0 t1
  have l1 := dd_le_iff n0 n1 (show 0 ≤ (18567 : Int) by omega) (by omega)
  rw [dv_1101] at l1
  have l2 := dd_le_iff n0 n1 s0 s1
  have l3 := dd_lt_iff t0 t1 n0 n1
  have en := num_x5 n0 n1 (show 100 ≤ N by omega)
  by_cases c1 : e ≤ 18567
  case neg =>
    right
    have k1 : ¬ DD e ≤ 20661101 := by rw [l1]; exact c1
    constructor
    · unfold f_X4_addBond f_X4_requireLife
      simp (disch := omega) only [true_or, or_true, gd_T, bd_e, jn_e, bi_e, gd_t, it_e, ie_e, if_true, if_false, ii_lit, ii_add, ii_sub, ii_mul, ii_neg, ii_lt, ii_le, ii_eq, ii_nat, ii_div, ii_nI, e1, g1, ex_i, ex_e]
    · rw [addb_u]
      unfold f_X5_no
      simp (disch := omega) only [true_or, or_true, gd_T, bd_e, jn_e, bi_e, gd_t, it_e, ie_e, if_true, if_false, ii_lit, ii_add, ii_sub, ii_mul, ii_neg, ii_lt, ii_le, ii_eq, ii_nat, ii_div, ii_nI, e5, g5]
  have k1 : DD e ≤ 20661101 := by rw [l1]; exact c1
  by_cases c2 : e ≤ s
  case pos =>
    right
    have k2 : DD e ≤ DD s := by rw [l2]; exact c2
    constructor
    · unfold f_X4_addBond f_X4_requireLife
      simp (disch := omega) only [true_or, or_true, gd_T, bd_e, jn_e, bi_e, gd_t, it_e, ie_e, if_true, if_false, ii_lit, ii_add, ii_sub, ii_mul, ii_neg, ii_lt, ii_le, ii_eq, ii_nat, ii_div, ii_nI, e1, g1, ex_i, ex_e]
    · rw [addb_u]
      unfold f_X5_no
      simp (disch := omega) only [true_or, or_true, gd_T, bd_e, jn_e, bi_e, gd_t, it_e, ie_e, if_true, if_false, ii_lit, ii_add, ii_sub, ii_mul, ii_neg, ii_lt, ii_le, ii_eq, ii_nat, ii_div, ii_nI, e5, g5]
  have k2 : ¬ DD e ≤ DD s := by rw [l2]; exact c2
  by_cases c3 : td < e
  case neg =>
    right
    have k3 : ¬ DD td < DD e := by rw [l3]; exact c3
    constructor
    · unfold f_X4_addBond f_X4_requireLife
      simp (disch := omega) only [true_or, or_true, gd_T, bd_e, jn_e, bi_e, gd_t, it_e, ie_e, if_true, if_false, ii_lit, ii_add, ii_sub, ii_mul, ii_neg, ii_lt, ii_le, ii_eq, ii_nat, ii_div, ii_nI, e1, g1, hK, ex_i, ex_e]
    · rw [addb_u]
      unfold f_X5_no
      simp (disch := omega) only [true_or, or_true, gd_T, bd_e, jn_e, bi_e, gd_t, it_e, ie_e, if_true, if_false, ii_lit, ii_add, ii_sub, ii_mul, ii_neg, ii_lt, ii_le, ii_eq, ii_nat, ii_div, ii_nI, e5, g5, en, hM]
  have k3 : DD td < DD e := by rw [l3]; exact c3
  have lf : f_X4_requireLife K (II (DD s)) (II (DD e)) = some (.inl ()) := by
    unfold f_X4_requireLife
    simp (disch := omega) only [true_or, or_true, gd_T, bd_e, jn_e, bi_e, gd_t, it_e, ie_e, if_true, if_false, ii_lit, ii_add, ii_sub, ii_mul, ii_neg, ii_lt, ii_le, ii_eq, ii_nat, ii_div, ii_nI, e1, g1, hK, ex_i]
  obtain ⟨p, p0, p1, rfl⟩ := rng a2
  obtain ⟨f, f0, f1, rfl⟩ := rng a3
  obtain ⟨w, w0, w1, rfl⟩ := rng a4
  by_cases c4 : 0 ≤ p ∧ p ≤ 2000
  case neg =>
    right
    constructor
    · unfold f_X4_addBond f_X4_requireTerms f_X4_requireRate
      rw [lf]
      by_cases c : p < 0
      · simp (disch := omega) only [true_or, or_true, gd_T, bd_e, jn_e, bi_e, gd_t, it_e, ie_e, if_true, if_false, ii_lit, ii_add, ii_sub, ii_mul, ii_neg, ii_lt, ii_le, ii_eq, ii_nat, ii_div, ii_nI, ex_i, ex_e]
      · simp (disch := omega) only [true_or, or_true, gd_T, bd_e, jn_e, bi_e, gd_t, it_e, ie_e, if_true, if_false, ii_lit, ii_add, ii_sub, ii_mul, ii_neg, ii_lt, ii_le, ii_eq, ii_nat, ii_div, ii_nI, ex_i, ex_e]
    · rw [addb_u]
      unfold f_X5_no
      simp (disch := omega) only [true_or, or_true, gd_T, bd_e, jn_e, bi_e, gd_t, it_e, ie_e, if_true, if_false, ii_lit, ii_add, ii_sub, ii_mul, ii_neg, ii_lt, ii_le, ii_eq, ii_nat, ii_div, ii_nI, e5, g5, en, hM, isin]
  by_cases c5 : f = 1 ∨ f = 2 ∨ f = 4 ∨ f = 12
  case neg =>
    right
    constructor
    · unfold f_X4_addBond f_X4_requireTerms f_X4_requireRate
      rw [lf]
      simp (disch := omega) only [true_or, or_true, gd_T, bd_e, jn_e, bi_e, gd_t, it_e, ie_e, if_true, if_false, ii_lit, ii_add, ii_sub, ii_mul, ii_neg, ii_lt, ii_le, ii_eq, ii_nat, ii_div, ii_nI, ex_i, ex_e]
    · rw [addb_u]
      unfold f_X5_no
      simp (disch := omega) only [true_or, or_true, gd_T, bd_e, jn_e, bi_e, gd_t, it_e, ie_e, if_true, if_false, ii_lit, ii_add, ii_sub, ii_mul, ii_neg, ii_lt, ii_le, ii_eq, ii_nat, ii_div, ii_nI, e5, g5, en, hM, isin]
  have hfm : ∃ m, FM9 f m := by
    rcases c5 with h | h | h | h
    · exact ⟨12, .inl ⟨h, rfl⟩⟩
    · exact ⟨6, .inr (.inl ⟨h, rfl⟩)⟩
    · exact ⟨3, .inr (.inr (.inl ⟨h, rfl⟩))⟩
    · exact ⟨1, .inr (.inr (.inr ⟨h, rfl⟩))⟩
  obtain ⟨m, hfm⟩ := hfm
  by_cases c6 : 0 ≤ w ∧ w ≤ 3
  case neg =>
    right
    constructor
    · unfold f_X4_addBond f_X4_requireTerms f_X4_requireRate
      rw [lf]
      by_cases c : w < 0
      · simp (disch := omega) only [true_or, or_true, gd_T, bd_e, jn_e, bi_e, gd_t, it_e, ie_e, if_true, if_false, ii_lit, ii_add, ii_sub, ii_mul, ii_neg, ii_lt, ii_le, ii_eq, ii_nat, ii_div, ii_nI, ex_i, ex_e, fm_j hfm, it_k]
      · simp (disch := omega) only [true_or, or_true, gd_T, bd_e, jn_e, bi_e, gd_t, it_e, ie_e, if_true, if_false, ii_lit, ii_add, ii_sub, ii_mul, ii_neg, ii_lt, ii_le, ii_eq, ii_nat, ii_div, ii_nI, ex_i, ex_e, fm_j hfm, it_k]
    · rw [addb_u]
      unfold f_X5_no
      simp (disch := omega) only [true_or, or_true, gd_T, bd_e, jn_e, bi_e, gd_t, it_e, ie_e, if_true, if_false, ii_lit, ii_add, ii_sub, ii_mul, ii_neg, ii_lt, ii_le, ii_eq, ii_nat, ii_div, ii_nI, e5, g5, en, hM, isin, fm_j hfm, it_k]
  left
  exact ⟨s, e, p, w, f, m, s0, by omega, c1, c3, hfm, c4.1, c4.2, c6.1, c6.2, rfl, rfl, rfl, rfl, rfl, lf, e5, g5⟩
