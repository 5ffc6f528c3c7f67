/-! pure: pass agrees -/
section PSS
variable {nb nh : Nat} {hd : Nat → Int} {hol mhol : Nat → Int32} {Y : Nat → Nat → Int} {bS : Nat → Nat → Int32} {bT : Nat → Nat → Int64} {bn : Nat → Nat} {bds : Nat → Nat → Int32} {mdy : Nat → Int32} {rt t : Int}
theorem day_J (t0 : 0 ≤ t) (hc : CH nh hd hol) (hnb : nb ≤ 10) (r0 : 0 ≤ rt) (r1 : rt ≤ 2000) {N : Nat} (hN : 10000 ≤ N) {a : Nat} (ha : t + a ≤ 18567) (ha4 : a ≤ 400) : ∀ (k c : Nat), c + k = a → ∀ (K M : Nat → Int32), K 5 = II (DD (t + c)) → K 7 = II rt → M 1 = II (t + c) → M 3 = II rt → M 4 = II nb → MH nh hd M mhol → ∀ (X : Nat → Nat → Int) (bB : Nat → Nat → Int32) (mof : Nat → Int32), BS9 nb X Y bB bS bT bn bds mof mdy → ∀ (LG pd : Nat → Int64), (∀ k, k < 4 → LG k = pd k) → ∀ (mc : Int64) (f : Nat), k + 1 ≤ f → ∃ X' K' M' bB' LG' w' pd' d, (∀ kc K12, f_X4_pass_L64 (II a) N (II t) hol nb bS bT bn bds K12 f (II ((c : Int) + 1)) K kc LG bB = K12 K' kc LG' bB') ∧ (∀ x K11, f_X5_pass_L49 (II a) N mhol mdy K11 f x (II c) M mc mof pd = K11 (x + d) M' (mc + d) w' pd') ∧ (∀ k, k < 4 → LG' k = pd' k) ∧ SL9 LG' = SL9 LG + d ∧ BS9 nb X' Y bB' bS bT bn bds w' mdy ∧ K' 5 = II (DD (t + a)) ∧ (∀ q, q ≠ 5 → K' q = K q) ∧ M' 1 = II (t + a) ∧ (∀ q, q ≠ 1 → M' q = M q) := by
  intro k
  induction k with
  | zero =>
    intro c hk K M k5 k7 m1 m3 m4 hm X bB mof hB LG pd hL mc f hf
    obtain ⟨f, rfl⟩ : ∃ f', f = f' + 1 := ⟨f - 1, by omega⟩
    have e : c = a := by omega
    subst e
    refine ⟨X, K, M, bB, LG, mof, pd, 0, fun kc K12 => ?_, fun x K11 => ?_, hL, (Int64.add_zero _).symm, hB, k5, fun _ _ => rfl, m1, fun _ _ => rfl⟩
    · unfold f_X4_pass_L64
      simp (disch := omega) only [true_or, or_true, gd_T, bd_e, jn_e, bi_e, gd_t, it_e, ie_e, if_true, if_false, ii_lit, ii_add, ii_sub, ii_mul, ii_neg, ii_lt, ii_le, ii_eq, ii_nat, ii_div, ii_nI]
    · unfold f_X5_pass_L49
      simp (disch := omega) only [true_or, or_true, gd_T, bd_e, jn_e, bi_e, gd_t, it_e, ie_e, if_true, if_false, ii_lit, ii_add, ii_sub, ii_mul, ii_neg, ii_lt, ii_le, ii_eq, ii_nat, ii_div, ii_nI]
      rw [Int64.add_zero, Int64.add_zero]
  | succ k ih =>
    intro c hk K M k5 k7 m1 m3 m4 hm X bB mof hB LG pd hL mc f hf
    obtain ⟨f, rfl⟩ : ∃ f', f = f' + 1 := ⟨f - 1, by omega⟩
    have e9 : ((c : Int) + 1) = ((c + 1 : Nat) : Int) := by omega
    have et : t + ((c : Int) + 1) = t + ((c + 1 : Nat) : Int) := by omega
    have e10 : (c : Int) + 1 + 1 = ((c + 1 : Nat) : Int) + 1 := by omega
    have et2 : t + (c : Int) + 1 = t + ((c + 1 : Nat) : Int) := by omega
    have ed := dat_x1 (n := t + ((c + 1 : Nat) : Int)) (by omega) (by omega) (show 100 ≤ N by omega)
    have wc := wk_c hc (n := t + ((c + 1 : Nat) : Int)) (by omega) (by omega) (show 200 ≤ N by omega)
    have hm1 : MH nh hd (va_up M 1 (II (t + ((c + 1 : Nat) : Int)))) mhol := ⟨hm.1, (va_up_ne _ _ (by decide)).trans hm.2.1, hm.2.2⟩
    have wm := wk_m hm1 (n := t + ((c + 1 : Nat) : Int)) (by omega) (by omega) (show 200 ≤ N by omega)
    have q5 : va_up K 5 (II (DD (t + ((c + 1 : Nat) : Int)))) 5 = II (DD (t + ((c + 1 : Nat) : Int))) := va_up_self _ _ _
    have q7 : va_up K 5 (II (DD (t + ((c + 1 : Nat) : Int)))) 7 = II rt := (va_up_ne _ _ (by decide)).trans k7
    have n1 : va_up M 1 (II (t + ((c + 1 : Nat) : Int))) 1 = II (t + ((c + 1 : Nat) : Int)) := va_up_self _ _ _
    have n3 : va_up M 1 (II (t + ((c + 1 : Nat) : Int))) 3 = II rt := (va_up_ne _ _ (by decide)).trans m3
    have n4 : va_up M 1 (II (t + ((c + 1 : Nat) : Int))) 4 = II nb := (va_up_ne _ _ (by decide)).trans m4
    by_cases cw : WK nh hd (t + ((c + 1 : Nat) : Int))
    · have wc := (wc.resolve_right (fun h => h.1 cw)).2
      have wm := (wm.resolve_right (fun h => h.1 cw)).2
      obtain ⟨X1, B1, L1, w1, p1, d1, a1, a2, a3, a4, a5⟩ := lab_J (t0 := by omega) (t1 := by omega) q5 q7 n1 n3 n4 hnb r0 r1 (show 300 ≤ N by omega) nb 0 (by omega) X bB mof hB LG pd hL mc N (by omega)
      obtain ⟨X2, K2, M2, B2, L2, w2, p2, d2, b1, b2, b3, b4, b5, b6, b7, b8, b9⟩ := ih (c + 1) (by omega) _ _ q5 q7 n1 n3 n4 hm1 X1 B1 w1 a5 L1 p1 a3 (mc + d1) f (by omega)
      have ez : II ((0 : Nat) : Int) = II 0 := rfl
      rw [ez] at a1 a2
      have hla : f_X4_lookAtBonds N (va_up K 5 (II (DD (t + ((c + 1 : Nat) : Int))))) LG nb bB bS bT bn bds = some (L1, B1) := by
        unfold f_X4_lookAtBonds
        rw [show (0 : Int32) = II 0 from ii_lit 0, a1]
      refine ⟨X2, K2, M2, B2, L2, w2, p2, d1 + d2, fun kc K12 => ?_, fun x K11 => ?_, b3, ?_, b5, b6, fun q hq => (b7 q hq).trans (va_up_ne _ _ hq), b8, fun q hq => (b9 q hq).trans (va_up_ne _ _ hq)⟩
      · unfold f_X4_pass_L64
        simp (disch := omega) only [true_or, or_true, gd_T, bd_e, jn_e, bi_e, gd_t, it_e, ie_e, if_true, if_false, ii_lit, ii_add, ii_sub, ii_mul, ii_neg, ii_lt, ii_le, ii_eq, ii_nat, ii_div, ii_nI, et, ed, wc, hla, e10, b1]
      · unfold f_X5_pass_L49
        simp (disch := omega) only [true_or, or_true, gd_T, bd_e, jn_e, bi_e, gd_t, it_e, ie_e, if_true, if_false, ii_lit, ii_add, ii_sub, ii_mul, ii_neg, ii_lt, ii_le, ii_eq, ii_nat, ii_div, ii_nI, m1, et2, wm]
        rw [a2]
        simp (disch := omega) only [true_or, or_true, gd_T, bd_e, jn_e, bi_e, gd_t, it_e, ie_e, if_true, if_false, ii_lit, ii_add, ii_sub, ii_mul, ii_neg, ii_lt, ii_le, ii_eq, ii_nat, ii_div, ii_nI, e9]
        rw [b2, Int64.add_assoc, Int64.add_assoc]
      · rw [b4, a4, Int64.add_assoc]
    · have wc := (wc.resolve_left (fun h => cw h.1)).2
      have wm := (wm.resolve_left (fun h => cw h.1)).2
      obtain ⟨X2, K2, M2, B2, L2, w2, p2, d2, b1, b2, b3, b4, b5, b6, b7, b8, b9⟩ := ih (c + 1) (by omega) _ _ q5 q7 n1 n3 n4 hm1 X bB mof hB LG pd hL mc f (by omega)
      refine ⟨X2, K2, M2, B2, L2, w2, p2, d2, fun kc K12 => ?_, fun x K11 => ?_, b3, b4, b5, b6, fun q hq => (b7 q hq).trans (va_up_ne _ _ hq), b8, fun q hq => (b9 q hq).trans (va_up_ne _ _ hq)⟩
      · unfold f_X4_pass_L64
        simp (disch := omega) only [true_or, or_true, gd_T, bd_e, jn_e, bi_e, gd_t, it_e, ie_e, if_true, if_false, ii_lit, ii_add, ii_sub, ii_mul, ii_neg, ii_lt, ii_le, ii_eq, ii_nat, ii_div, ii_nI, et, ed, wc, e10, b1]
      · unfold f_X5_pass_L49
        simp (disch := omega) only [true_or, or_true, gd_T, bd_e, jn_e, bi_e, gd_t, it_e, ie_e, if_true, if_false, ii_lit, ii_add, ii_sub, ii_mul, ii_neg, ii_lt, ii_le, ii_eq, ii_nat, ii_div, ii_nI, m1, et2, wm]
        rw [e9, b2]
end PSS
theorem ok_pass {g : SG} {μ : SM} (hI : Inv g μ) {N : Nat} (hN : 10000 ≤ N) (a0 : Int32) : OkM Inv ["java/lang/IllegalArgumentException", "java/lang/IllegalStateException"] (fun v : Int64 => v) (fun v : Int64 => v) g (k_pass N g a0) (q_pass N μ a0) := by
  obtain ⟨td, nh, hd, rt, X, Y, h9⟩ := id hI
  obtain ⟨⟨t0, t1, r0, r1, hnb⟩, ⟨k3, k4, k5, k7⟩, ⟨hc, hm⟩, ⟨m1, m3, m4⟩, ⟨hkc, hLG⟩, hB⟩ := id h9
  obtain ⟨x, x1, x2, rfl⟩ := rng a0
  have nt := num_x1 t0 (show td ≤ 18627 by omega)
  have nl := num_x1 (n := 18567) (by omega) (by omega)
  rw [← dd_1101] at nl
  have ml := num_x5 (n := 18567) (N := N) (by omega) (by omega) (by omega)
  rw [← dd_1101] at ml
  by_cases c1 : 1 ≤ x ∧ x ≤ 400
  case neg =>
    refine ok_x2 (E := "java/lang/IllegalArgumentException") (b := LL 0) (M' := va_up (va_up μ.1 0 (II 0)) 0 (II 1)) hI ?_ (by decide) ?_ ((va_up_self _ _ _).trans (by decide)) (up2 _ _ _)
    · unfold f_X4_pass
      by_cases c : x < 1
      · simp (disch := omega) only [true_or, or_true, gd_T, bd_e, jn_e, bi_e, gd_t, it_e, ie_e, if_true, if_false, ii_lit, ii_add, ii_sub, ii_mul, ii_neg, ii_lt, ii_le, ii_eq, ii_nat, ii_div, ii_nI]
      · simp (disch := omega) only [true_or, or_true, gd_T, bd_e, jn_e, bi_e, gd_t, it_e, ie_e, if_true, if_false, ii_lit, ii_add, ii_sub, ii_mul, ii_neg, ii_lt, ii_le, ii_eq, ii_nat, ii_div, ii_nI]
    · unfold q_pass f_X5_pass f_X5_no
      simp (disch := omega) only [true_or, or_true, gd_T, bd_e, jn_e, bi_e, gd_t, it_e, ie_e, if_true, if_false, ii_lit, ii_add, ii_sub, ii_mul, ii_neg, ii_lt, ii_le, ii_eq, ii_nat, ii_div, ii_nI, ll_lit, ll_add, ll_sub, ll_mul, ll_neg, ll_div, ii_toL, ll_toI, lz_gt, lz_lt, lz_le, lz_ge, lz_eq, ll_lt, ll_le, ll_eq, isin, mp_e]
  by_cases c2 : td + x ≤ 18567
  case neg =>
    refine ok_x2 (E := "java/lang/IllegalStateException") (b := LL 0) (M' := va_up (va_up μ.1 0 (II 0)) 0 (II 2)) hI ?_ (by decide) ?_ ((va_up_self _ _ _).trans (by decide)) (up2 _ _ _)
    · unfold f_X4_pass
      rw [nl, k5, nt]
      simp (disch := omega) only [true_or, or_true, gd_T, bd_e, jn_e, bi_e, gd_t, it_e, ie_e, if_true, if_false, ii_lit, ii_add, ii_sub, ii_mul, ii_neg, ii_lt, ii_le, ii_eq, ii_nat, ii_div, ii_nI]
    · unfold q_pass f_X5_pass f_X5_no
      rw [ml, m1]
      simp (disch := omega) only [true_or, or_true, gd_T, bd_e, jn_e, bi_e, gd_t, it_e, ie_e, if_true, if_false, ii_lit, ii_add, ii_sub, ii_mul, ii_neg, ii_lt, ii_le, ii_eq, ii_nat, ii_div, ii_nI, ll_lit, ll_add, ll_sub, ll_mul, ll_neg, ll_div, ii_toL, ll_toI, lz_gt, lz_lt, lz_le, lz_ge, lz_eq, ll_lt, ll_le, ll_eq, isin, mp_e]
  have ex : x = ((x.toNat : Nat) : Int) := by omega
  obtain ⟨a, ha⟩ : ∃ a, a = x.toNat := ⟨_, rfl⟩
  rw [← ha] at ex
  subst ex
  have ez : II ((0 : Nat) : Int) = II 0 := rfl
  have e1 : ((0 : Nat) : Int) + 1 = 1 := rfl
  have et : td + ((0 : Nat) : Int) = td := by omega
  obtain ⟨X2, K2, M2, B2, L2, w2, p2, d, b1, b2, b3, b4, b5, b6, b7, b8, b9⟩ := day_J (mhol := μ.2.2.1) (Y := Y) (nb := g.2.2.2.2.1) (bS := g.2.2.2.2.2.2.1) (bT := g.2.2.2.2.2.2.2.1) (bn := g.2.2.2.2.2.2.2.2.1) (bds := g.2.2.2.2.2.2.2.2.2) (mdy := μ.2.2.2.2.1) t0 hc hnb r0 r1 hN (a := a) c2 (by omega) a 0 (by omega) g.1 (va_up μ.1 0 (II 0)) (by rw [et]; exact k5) k7 (by rw [et]; exact (va_up_ne _ _ (by decide)).trans m1) ((va_up_ne _ _ (by decide)).trans m3) ((va_up_ne _ _ (by decide)).trans m4) (mh_up hm) X g.2.2.2.2.2.1 μ.2.2.2.1 hB g.2.2.2.1 μ.2.2.2.2.2 hLG μ.2.1 N (by omega)
  rw [ez] at b2
  rw [e1] at b1
  have hs : L2 0 + L2 1 + L2 2 + L2 3 - (g.2.2.2.1 0 + g.2.2.2.1 1 + g.2.2.2.1 2 + g.2.2.2.1 3) = d := by
    have : SL9 L2 - SL9 g.2.2.2.1 = d := by rw [b4, Int64.add_comm, Int64.add_sub_cancel]
    exact this
  refine ok_v2 (u := (d, K2, g.2.1 + d, L2, B2)) (b := d) (μ' := (M2, μ.2.1 + d, μ.2.2.1, w2, μ.2.2.2.2.1, p2)) ?_ ?_ ?_ rfl ?_
  · unfold f_X4_pass f_X2_all
    rw [nl, k5, nt]
    simp (disch := omega) only [true_or, or_true, gd_T, bd_e, jn_e, bi_e, gd_t, it_e, ie_e, if_true, if_false, ii_lit, ii_add, ii_sub, ii_mul, ii_neg, ii_lt, ii_le, ii_eq, ii_nat, ii_div, ii_nI, b1, hs]
  · unfold q_pass f_X5_pass
    rw [ml, m1]
    simp (disch := omega) only [true_or, or_true, gd_T, bd_e, jn_e, bi_e, gd_t, it_e, ie_e, if_true, if_false, ii_lit, ii_add, ii_sub, ii_mul, ii_neg, ii_lt, ii_le, ii_eq, ii_nat, ii_div, ii_nI, isin, b2, mp_e]
    rw [Int64.zero_add]
  · exact (b9 0 (by decide)).trans (va_up_self _ _ _)
  · have hk : ∀ q, q ≠ 0 → q ≠ 1 → M2 q = μ.1 q := fun q a b => (b9 q b).trans (va_up_ne _ _ a)
    exact ⟨td + a, nh, hd, rt, X2, Y, ⟨by omega, by omega, r0, r1, hnb⟩, ⟨(b7 3 (by decide)).trans k3, (b7 4 (by decide)).trans k4, b6, (b7 7 (by decide)).trans k7⟩, ⟨hc, hm.1, (hk 5 (by decide) (by decide)).trans hm.2.1, hm.2.2⟩, ⟨b8, (hk 3 (by decide) (by decide)).trans m3, (hk 4 (by decide) (by decide)).trans m4⟩, ⟨by show g.2.1 + d = μ.2.1 + d; rw [hkc], b3⟩, b5⟩
