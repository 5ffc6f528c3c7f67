/-! pure: a look at a coupon date, both -/
def SL9 (L : Nat → Int64) : Int64 := L 0 + L 1 + L 2 + L 3
theorem sl_up (L : Nat → Int64) {k : Nat} (hk : k < 4) (v : Int64) : SL9 (va_up L k (L k + v)) = SL9 L + v := by
  unfold SL9
  rcases (show k = 0 ∨ k = 1 ∨ k = 2 ∨ k = 3 by omega) with rfl | rfl | rfl | rfl
  · show L 0 + v + L 1 + L 2 + L 3 = L 0 + L 1 + L 2 + L 3 + v
    ac_rfl
  · show L 0 + (L 1 + v) + L 2 + L 3 = L 0 + L 1 + L 2 + L 3 + v
    ac_rfl
  · show L 0 + L 1 + (L 2 + v) + L 3 = L 0 + L 1 + L 2 + L 3 + v
    ac_rfl
  · show L 0 + L 1 + L 2 + (L 3 + v) = L 0 + L 1 + L 2 + L 3 + v
    ac_rfl
theorem up_eq {L P : Nat → Int64} (h : ∀ k, k < 4 → L k = P k) {k0 : Nat} (h0 : k0 < 4) {v v' : Int64} (hv : v = v') : ∀ k, k < 4 → va_up L k0 (L k0 + v) k = vp_updL P k0 (P k0 + v') k := by
  intro k hk
  unfold va_up vp_updL
  by_cases c : k = k0
  · rw [if_pos c, if_pos c, h k0 h0, hv]
  · rw [if_neg c, if_neg c, h k hk]
theorem up_z (L : Nat → Int64) (k0 : Nat) {v : Int64} (hv : v = 0) : va_up L k0 (L k0 + v) = L := by
  funext k
  unfold va_up
  by_cases c : k = k0
  · rw [if_pos c, hv, c, Int64.add_zero]
  · rw [if_neg c]
section LKJ
variable {X Y : Nat → Int} {B S : Nat → Int32} {T : Nat → Int64} {n : Nat} {ds mof mdy : Nat → Int32} {i : Nat} {q l c h rt : Int}
theorem gone_J (hW : WB X Y) (hC : CB X Y B S T n ds) (hM : MD X Y mof mdy i) (q0 : 0 ≤ q) (q1 : q ≤ X 6) (l0 : 0 ≤ l) (l1 : l ≤ 10000) (hc : c = 1 ∨ c = 2) {B1 w1 : Nat → Int32} (b1 : B1 1 = II l) (b3 : B1 3 = II q) (bo : ∀ k, k ≠ 1 → k ≠ 2 → k ≠ 3 → k ≠ 4 → B1 k = B k) (w5 : w1 (14 * i + 5) = II l) (w7 : w1 (14 * i + 7) = II q) (wo : ∀ k, k < 14 → k ≠ 5 → k ≠ 7 → k ≠ 8 → k ≠ 9 → w1 (14 * i + k) = mof (14 * i + k)) : WB (LKX X q l c 0) Y ∧ CB (LKX X q l c 0) Y (va_up (va_up B1 2 (II c)) 4 (II 0)) S T n ds ∧ MD (LKX X q l c 0) Y (upd (upd w1 (14 * i + 8) (II c)) (14 * i + 9) (II 0)) mdy i := by
  have hu : ∀ k, k ≠ 2 → k ≠ 4 → va_up (va_up B1 2 (II c)) 4 (II 0) k = B1 k := fun k a b => by rw [va_up_ne _ _ b, va_up_ne _ _ a]
  have hw : ∀ k, k ≠ 14 * i + 8 → k ≠ 14 * i + 9 → upd (upd w1 (14 * i + 8) (II c)) (14 * i + 9) (II 0) k = w1 k := fun k a b => by simp [upd, a, b]
  refine ⟨wb_l hW q0 q1 l0 l1 (by omega) (by omega) (by omega) (by omega) (fun hh => by omega) (fun _ => rfl), cb_l hC ((hu 1 (by decide) (by decide)).trans b1) ((va_up_ne _ _ (by decide)).trans (va_up_self _ _ _)) ((hu 3 (by decide) (by decide)).trans b3) (va_up_self _ _ _) ((hu 5 (by decide) (by decide)).trans (bo 5 (by decide) (by decide) (by decide) (by decide))) ((hu 6 (by decide) (by decide)).trans (bo 6 (by decide) (by decide) (by decide) (by decide))) ((hu 7 (by decide) (by decide)).trans (bo 7 (by decide) (by decide) (by decide) (by decide))) ((hu 8 (by decide) (by decide)).trans (bo 8 (by decide) (by decide) (by decide) (by decide))), md_l hM (fun k hk h5 h7 h8 h9 => (hw _ (by omega) (by omega)).trans (wo k hk h5 h7 h8 h9)) ((hw _ (by omega) (by omega)).trans w5) ((hw _ (by omega) (by omega)).trans w7) (by simp [upd]) (by simp [upd])⟩
set_option maxHeartbeats 4000000 in
theorem look_m {M : Nat → Int32} (hW : WB X Y) (hM : MD X Y mof mdy i) {j : Nat} (hj : ((j + 1 : Nat) : Int) < X 6) (h7 : X 7 = j) (h8 : X 8 = 0) {N : Nat} (hN : 300 ≤ N) {LG pd : Nat → Int64} (hL : ∀ k, k < 4 → LG k = pd k) (mc : Int64) : ∃ w1 x1 pd1, f_X5_look N M mc mof mdy pd (II i) = TL9 N M mdy (II i) (II j) x1 (mc + x1) w1 pd1 ∧ w1 (14 * i + 5) = II (X 5 - SK X Y j (X 5)) ∧ w1 (14 * i + 7) = II ((j : Int) + 1) ∧ (∀ k, k ≠ 14 * i + 5 → k ≠ 14 * i + 7 → w1 k = mof k) ∧ (∀ k, k < 4 → va_up (va_up LG 0 (LG 0 + LL (X 9 * CP X Y j (10 * X 5)))) 1 (LG 1 + LL (X 9 * (10 * SK X Y j (X 5)))) k = pd1 k) ∧ SL9 (va_up (va_up LG 0 (LG 0 + LL (X 9 * CP X Y j (10 * X 5)))) 1 (LG 1 + LL (X 9 * (10 * SK X Y j (X 5))))) = SL9 LG + x1 := by
  have hi := hM.1
  have h9 := hW.2.1
  have h13 := hW.2.2.1
  have sr := sk_r hW (j := j) h9.1
  have cr := cp_r hW (j := j) (by omega) (F := 10 * X 5) (by omega) (by omega)
  have o7 : f_X5_own mof (II i) (II 7) = some (II j) := (own_7 hM).trans (by rw [h7])
  have c7 : mof (14 * i + 7) = II j := (hM.2.1 7 (by decide)).trans (by rw [h7])
  have c9 : mof (14 * i + 9) = II (X 9) := hM.2.1 9 (by decide)
  have c5 : mof (14 * i + 5) = II (X 5) := hM.2.1 5 (by decide)
  have e7 : (14 * (i : Int) + 7).toNat = 14 * i + 7 := by omega
  have e5 : (14 * (i : Int) + 5).toNat = 14 * i + 5 := by omega
  obtain ⟨w6, hw6⟩ : ∃ w6, w6 = upd mof (14 * i + 7) (II ((j : Int) + 1)) := ⟨_, rfl⟩
  have v6 : ∀ k, k ≠ 14 * i + 7 → w6 k = mof k := fun k a => by rw [hw6]; simp [upd, a]
  have v7 : w6 (14 * i + 7) = II ((j : Int) + 1) := by rw [hw6]; simp [upd]
  have hW1 : WB (LKX X (j + 1) (X 5) 0 (X 9)) Y := wb_l hW (by omega) (by omega) h9.1 h9.2.1 (by omega) (by omega) (by omega) (by omega) (fun _ => by omega) (fun hh => absurd rfl hh)
  have hM1 : MD (LKX X (j + 1) (X 5) 0 (X 9)) Y w6 mdy i := md_l hM (fun k hk a b d e => v6 _ (by omega)) ((v6 _ (by omega)).trans c5) v7 ((v6 _ (by omega)).trans ((hM.2.1 8 (by decide)).trans (by rw [h8]))) ((v6 _ (by omega)).trans c9)
  have o5 : f_X5_own w6 (II i) (II 5) = some (II (X 5)) := by
    have h := own_5 hM1
    exact h
  have o6 : f_X5_own w6 (II i) (II 6) = some (II (X 6)) := by
    have h := own_6 hM1
    exact h
  have o11 : f_X5_own w6 (II i) (II 11) = some (II (X 11)) := by
    have h := own_11 hM1
    exact h
  have ec := cpn_w hM hW (j := j) (by omega) (F := 10 * X 5) (by omega) (by omega) (show 200 ≤ N by omega) (w := w6) (fun k _ a => v6 _ (by omega))
  have p0 := pay_g hi (by omega : 0 ≤ X 9) (by omega) ((v6 _ (by omega)).trans c9) (by decide : 0 < 4) mc pd (CP X Y j (10 * X 5))
  have z0 : II ((0 : Nat) : Int) = II 0 := rfl
  have z1 : II ((1 : Nat) : Int) = II 1 := rfl
  rw [z0] at p0
  have m0 : CP X Y j (10 * X 5) * X 9 = X 9 * CP X Y j (10 * X 5) := Int.mul_comm _ _
  rw [m0] at p0
  have hL0 := up_eq hL (show 0 < 4 by decide) (v := LL (X 9 * CP X Y j (10 * X 5))) rfl
  have s0 := sl_up LG (show 0 < 4 by decide) (LL (X 9 * CP X Y j (10 * X 5)))
  rcases snk_m hM1 hW1 (j := j) (show (j : Int) < X 6 by omega) with ⟨cs, es⟩ | ⟨cs, es⟩
  · have cs : SU X Y j := cs
    have hsk := (sk_su X Y j (X 5)).1 cs
    have e37 : ∀ {_ : Decidable (X 11 < X 5)}, (if X 11 < X 5 then II (X 11) else II (X 5)) = II (SK X Y j (X 5)) := by
      intro _
      rw [hsk]
      by_cases c1 : X 11 < X 5
      · rw [if_pos c1, if_neg (by omega)]
      · rw [if_neg c1]
        by_cases c2 : X 5 < X 11
        · rw [if_pos c2]
        · rw [if_neg c2, show X 5 = X 11 by omega]
    have p1 := pay_g hi (by omega : 0 ≤ X 9) (by omega) ((v6 _ (by omega)).trans c9) (by decide : 1 < 4) (mc + LL (X 9 * CP X Y j (10 * X 5))) (vp_updL pd 0 (pd 0 + LL (X 9 * CP X Y j (10 * X 5)))) (10 * SK X Y j (X 5))
    have m1 : 10 * SK X Y j (X 5) * X 9 = X 9 * (10 * SK X Y j (X 5)) := Int.mul_comm _ _
    rw [z1, m1] at p1
    have d5 : w6 (14 * i + 5) = II (X 5) := (v6 _ (by omega)).trans c5
    refine ⟨upd w6 (14 * i + 5) (II (X 5 - SK X Y j (X 5))), LL (X 9 * CP X Y j (10 * X 5)) + LL (X 9 * (10 * SK X Y j (X 5))), vp_updL (vp_updL pd 0 (pd 0 + LL (X 9 * CP X Y j (10 * X 5)))) 1 (vp_updL pd 0 (pd 0 + LL (X 9 * CP X Y j (10 * X 5))) 1 + LL (X 9 * (10 * SK X Y j (X 5)))), ?_, by simp [upd], by simp [upd, v7], fun k a b => by simp [upd, a, v6 k b], up_eq hL0 (show 1 < 4 by decide) rfl, ?_⟩
    · rw [look_u]
      simp (disch := omega) only [true_or, or_true, gd_T, bd_e, jn_e, bi_e, gd_t, it_e, ie_e, if_true, if_false, ii_lit, ii_add, ii_sub, ii_mul, ii_neg, ii_lt, ii_le, ii_eq, ii_nat, ii_div, ii_nI, o7, e7, c7, ← hw6, o5]
      rw [ii_toL (by omega) (by omega), show (10 : Int64) = LL 10 from ll_lit 10, ll_mul, ec, bi_e, ii_toL (by omega) (by omega), p0]
      simp (disch := omega) only [true_or, or_true, gd_T, bd_e, jn_e, bi_e, gd_t, it_e, ie_e, if_true, if_false, ii_lit, ii_add, ii_sub, ii_mul, ii_neg, ii_lt, ii_le, ii_eq, ii_nat, ii_div, ii_nI, o6, es, o5, o11, e37]
      rw [ii_toL (by omega) (by omega), ll_mul, p1]
      simp (disch := omega) only [true_or, or_true, gd_T, bd_e, jn_e, bi_e, gd_t, it_e, ie_e, if_true, if_false, ii_lit, ii_add, ii_sub, ii_mul, ii_neg, ii_lt, ii_le, ii_eq, ii_nat, ii_div, ii_nI, e5, d5]
      rw [Int64.add_assoc]
    · have s1 := sl_up (va_up LG 0 (LG 0 + LL (X 9 * CP X Y j (10 * X 5)))) (show 1 < 4 by decide) (LL (X 9 * (10 * SK X Y j (X 5))))
      rw [s0, Int64.add_assoc] at s1
      exact s1
  · have cs : ¬ SU X Y j := cs
    have hsk := (sk_su X Y j (X 5)).2 cs
    have hz : LL (X 9 * (10 * SK X Y j (X 5))) = 0 := by rw [hsk, Int.mul_zero, Int.mul_zero]; rfl
    have hu := up_z (va_up LG 0 (LG 0 + LL (X 9 * CP X Y j (10 * X 5)))) 1 hz
    have hu : va_up (va_up LG 0 (LG 0 + LL (X 9 * CP X Y j (10 * X 5)))) 1 (LG 1 + LL (X 9 * (10 * SK X Y j (X 5)))) = va_up LG 0 (LG 0 + LL (X 9 * CP X Y j (10 * X 5))) := hu
    refine ⟨w6, LL (X 9 * CP X Y j (10 * X 5)), vp_updL pd 0 (pd 0 + LL (X 9 * CP X Y j (10 * X 5))), ?_, ?_, v7, fun k a b => v6 k b, ?_, ?_⟩
    · rw [look_u]
      simp (disch := omega) only [true_or, or_true, gd_T, bd_e, jn_e, bi_e, gd_t, it_e, ie_e, if_true, if_false, ii_lit, ii_add, ii_sub, ii_mul, ii_neg, ii_lt, ii_le, ii_eq, ii_nat, ii_div, ii_nI, o7, e7, c7, ← hw6, o5]
      rw [ii_toL (by omega) (by omega), show (10 : Int64) = LL 10 from ll_lit 10, ll_mul, ec, bi_e, ii_toL (by omega) (by omega), p0]
      simp (disch := omega) only [true_or, or_true, gd_T, bd_e, jn_e, bi_e, gd_t, it_e, ie_e, if_true, if_false, ii_lit, ii_add, ii_sub, ii_mul, ii_neg, ii_lt, ii_le, ii_eq, ii_nat, ii_div, ii_nI, o6, es]
    · rw [hsk, Int.sub_zero]
      exact (v6 _ (by omega)).trans c5
    · rw [hu]
      exact hL0
    · rw [hu]
      exact s0
set_option maxHeartbeats 4000000 in
theorem look_J {M : Nat → Int32} (hW : WB X Y) (hC : CB X Y B S T n ds) (hM : MD X Y mof mdy i) {j : Nat} (hj : j < n) (h7 : X 7 = j) (h8 : X 8 = 0) (m3 : M 3 = II rt) (r0 : 0 ≤ rt) (r1 : rt ≤ 2000) {N : Nat} (hN : 300 ≤ N) {LG pd : Nat → Int64} (hL : ∀ k, k < 4 → LG k = pd k) (mc : Int64) : ∃ X' B' LG' w' pd' d, f_X0_lookAt N B S T n ds LG (II j) (II rt) = some (B', LG') ∧ f_X5_look N M mc mof mdy pd (II i) = some (d, mc + d, w', pd') ∧ (∀ k, k < 4 → LG' k = pd' k) ∧ SL9 LG' = SL9 LG + d ∧ WB X' Y ∧ CB X' Y B' S T n ds ∧ MD X' Y w' mdy i ∧ (∀ q, (q < 14 * i ∨ 14 * i + 14 ≤ q) → w' q = mof q) ∧ X' 7 = (j : Int) + 1 ∧ X' 6 = X 6 := by
  have hi := hM.1
  have h9 := hW.2.1
  have hn := hC.1.1
  have sr := sk_r hW (j := j) h9.1
  have cr := cp_r hW (j := j) (by omega) (F := 10 * X 5) (by omega) (by omega)
  by_cases ce : j + 1 = n
  · have lc := lkc_E (rt := rt) hC hW ce (N := N) (LG := LG)
    have o7 : f_X5_own mof (II i) (II 7) = some (II j) := (own_7 hM).trans (by rw [h7])
    have c7 : mof (14 * i + 7) = II j := (hM.2.1 7 (by decide)).trans (by rw [h7])
    have c9 : mof (14 * i + 9) = II (X 9) := hM.2.1 9 (by decide)
    have c5 : mof (14 * i + 5) = II (X 5) := hM.2.1 5 (by decide)
    have c6 : mof (14 * i + 6) = II (X 6) := hM.2.1 6 (by decide)
    have e7 : (14 * (i : Int) + 7).toNat = 14 * i + 7 := by omega
    obtain ⟨w6, hw6⟩ : ∃ w6, w6 = upd mof (14 * i + 7) (II ((j : Int) + 1)) := ⟨_, rfl⟩
    have v6 : ∀ k, k ≠ 14 * i + 7 → w6 k = mof k := fun k a => by rw [hw6]; simp [upd, a]
    have v7 : w6 (14 * i + 7) = II ((j : Int) + 1) := by rw [hw6]; simp [upd]
    have o5 : f_X5_own w6 (II i) (II 5) = some (II (X 5)) := (own_g hi (by decide : 5 < 14)).trans (congrArg some ((v6 _ (by omega)).trans c5))
    have o6 : f_X5_own w6 (II i) (II 6) = some (II (X 6)) := (own_g hi (by decide : 6 < 14)).trans (congrArg some ((v6 _ (by omega)).trans c6))
    have ec := cpn_w hM hW (j := j) (by omega) (F := 10 * X 5) (by omega) (by omega) (show 200 ≤ N by omega) (w := w6) (fun k _ a => v6 _ (by omega))
    have p0 := pay_g hi (by omega : 0 ≤ X 9) (by omega) ((v6 _ (by omega)).trans c9) (by decide : 0 < 4) mc pd (CP X Y j (10 * X 5))
    have p3 := pay_g hi (by omega : 0 ≤ X 9) (by omega) ((v6 _ (by omega)).trans c9) (by decide : 3 < 4) (mc + LL (X 9 * CP X Y j (10 * X 5))) (vp_updL pd 0 (pd 0 + LL (X 9 * CP X Y j (10 * X 5)))) (10 * X 5)
    have z0 : II ((0 : Nat) : Int) = II 0 := rfl
    have z3 : II ((3 : Nat) : Int) = II 3 := rfl
    have m0 : CP X Y j (10 * X 5) * X 9 = X 9 * CP X Y j (10 * X 5) := Int.mul_comm _ _
    have m3' : 10 * X 5 * X 9 = X 9 * (10 * X 5) := Int.mul_comm _ _
    rw [z0, m0] at p0
    rw [z3, m3'] at p3
    have lv := lv_g hi w6 (II 1)
    have hL0 := up_eq hL (show 0 < 4 by decide) (v := LL (X 9 * CP X Y j (10 * X 5))) rfl
    have s0 := sl_up LG (show 0 < 4 by decide) (LL (X 9 * CP X Y j (10 * X 5)))
    have s3 := sl_up (va_up LG 0 (LG 0 + LL (X 9 * CP X Y j (10 * X 5)))) (show 3 < 4 by decide) (LL (X 9 * (10 * X 5)))
    rw [s0, Int64.add_assoc] at s3
    obtain ⟨g1, g2, g3⟩ := gone_J hW hC hM (q := (j : Int) + 1) (l := X 5) (c := 1) (by omega) (by omega) h9.1 h9.2.1 (.inl rfl) (B1 := va_up B 3 (II ((j : Int) + 1))) (w1 := w6) ((va_up_ne _ _ (by decide)).trans hC.1.2.1) (va_up_self _ _ _) (fun k _ _ a _ => va_up_ne _ _ a) ((v6 _ (by omega)).trans c5) v7 (fun k _ _ a _ _ => v6 _ (by omega))
    refine ⟨_, _, _, _, _, LL (X 9 * CP X Y j (10 * X 5)) + LL (X 9 * (10 * X 5)), lc, ?_, up_eq hL0 (show 3 < 4 by decide) rfl, s3, g1, g2, g3, fun q hq => ?_, rfl, rfl⟩
    · rw [look_u]
      simp (disch := omega) only [true_or, or_true, gd_T, bd_e, jn_e, bi_e, gd_t, it_e, ie_e, if_true, if_false, ii_lit, ii_add, ii_sub, ii_mul, ii_neg, ii_lt, ii_le, ii_eq, ii_nat, ii_div, ii_nI, o7, e7, c7, ← hw6, o5]
      rw [ii_toL (by omega) (by omega), show (10 : Int64) = LL 10 from ll_lit 10, ll_mul, ec, bi_e, ii_toL (by omega) (by omega), p0]
      simp (disch := omega) only [true_or, or_true, gd_T, bd_e, jn_e, bi_e, gd_t, it_e, ie_e, if_true, if_false, ii_lit, ii_add, ii_sub, ii_mul, ii_neg, ii_lt, ii_le, ii_eq, ii_nat, ii_div, ii_nI, o6, o5, p3, lv]
      rw [Int64.add_assoc]
    · have a1 : q ≠ 14 * i + 8 := by omega
      have a2 : q ≠ 14 * i + 9 := by omega
      simp [upd, a1, a2, v6 q (by omega)]
  · obtain ⟨w1, x1, pd1, lm, w5, w7, wo, hL1, s1⟩ := look_m (M := M) hW hM (j := j) (by omega) h7 h8 hN hL mc
    obtain ⟨l, hl⟩ : ∃ l, l = X 5 - SK X Y j (X 5) := ⟨_, rfl⟩
    rw [← hl] at w5
    obtain ⟨n1, n2, n3, n4⟩ := lkc_N hC hW (j := j) (by omega) h8 r0 r1 hN (LG := LG) hl
    have w8 : w1 (14 * i + 8) = II 0 := (wo _ (by omega) (by omega)).trans ((hM.2.1 8 (by decide)).trans (by rw [h8]))
    have w9 : w1 (14 * i + 9) = II (X 9) := (wo _ (by omega) (by omega)).trans (hM.2.1 9 (by decide))
    have hW2 : WB (LKX X (j + 1) l 0 (X 9)) Y := wb_l hW (by omega) (by omega) (by omega) (by omega) (by omega) (by omega) (by omega) (by omega) (fun _ => by omega) (fun hh => absurd rfl hh)
    have hM2 : MD (LKX X (j + 1) l 0 (X 9)) Y w1 mdy i := md_l hM (fun k hk a b d e => wo _ (by omega) (by omega)) w5 w7 w8 w9
    have b2 := hC.1.2.2.1
    have b4 := hC.1.2.2.2.2.1
    have hC2 : CB (LKX X (j + 1) l 0 (X 9)) Y (va_up (va_up B 3 (II ((j : Int) + 1))) 1 (II l)) S T n ds := cb_l hC (va_up_self _ _ _) (by rw [va_up_ne _ _ (by decide), va_up_ne _ _ (by decide), b2, h8]) (by rw [va_up_ne _ _ (by decide), va_up_self]) (by rw [va_up_ne _ _ (by decide), va_up_ne _ _ (by decide), b4]) (by rw [va_up_ne _ _ (by decide), va_up_ne _ _ (by decide)]) (by rw [va_up_ne _ _ (by decide), va_up_ne _ _ (by decide)]) (by rw [va_up_ne _ _ (by decide), va_up_ne _ _ (by decide)]) (by rw [va_up_ne _ _ (by decide), va_up_ne _ _ (by decide)])
    have tl := tl_L hM2 hW2 (j := j) (show (j : Int) < X 6 by omega) m3 r0 r1 hN x1 (mc + x1) pd1
    obtain ⟨t1, t2, t3, t4⟩ := tl
    have gj := fun c hc => gone_J hW hC hM (q := (j : Int) + 1) (l := l) (c := c) (by omega) (by omega) (by omega) (by omega) hc (B1 := va_up (va_up B 3 (II ((j : Int) + 1))) 1 (II l)) (w1 := w1) (va_up_self _ _ _) (by rw [va_up_ne _ _ (by decide), va_up_self]) (fun k a _ b _ => by rw [va_up_ne _ _ a, va_up_ne _ _ b]) w5 w7 (fun k _ a b _ _ => wo _ (by omega) (by omega))
    have fr : ∀ a b, ∀ q, (q < 14 * i ∨ 14 * i + 14 ≤ q) → upd (upd w1 (14 * i + 8) a) (14 * i + 9) b q = mof q := by
      intro a b q hq
      have a1 : q ≠ 14 * i + 8 := by omega
      have a2 : q ≠ 14 * i + 9 := by omega
      simp [upd, a1, a2, wo q (by omega) (by omega)]
    by_cases c0 : l = 0
    · obtain ⟨g1, g2, g3⟩ := gj 1 (.inl rfl)
      exact ⟨_, _, _, _, _, x1, n1 c0, lm.trans (t1 c0), hL1, s1, g1, g2, g3, fr _ _, rfl, rfl⟩
    · by_cases cu : CU X Y j
      · by_cases cw : WO (LKX X (j + 1) l 0 (X 9)) Y (Y (j + 1)) l rt ≤ 10 * l * X 13 / 10000
        · exact ⟨_, _, _, _, _, x1, n3 c0 cu cw, lm.trans (t3 c0 cu cw), hL1, s1, hW2, hC2, hM2, fun q hq => wo q (by omega) (by omega), rfl, rfl⟩
        · obtain ⟨g1, g2, g3⟩ := gj 2 (.inr rfl)
          have mk : 10 * l * X 13 / 10000 * X 9 = X 9 * (10 * l * X 13 / 10000) := Int.mul_comm _ _
          have t4 : TL9 N M mdy (II i) (II j) x1 (mc + x1) w1 pd1 = some (x1 + LL (10 * l * X 13 / 10000 * X 9), mc + x1 + LL (10 * l * X 13 / 10000 * X 9), upd (upd w1 (14 * i + 8) (II 2)) (14 * i + 9) (II 0), vp_updL pd1 2 (pd1 2 + LL (10 * l * X 13 / 10000 * X 9))) := t4 c0 cu (by show 10 * l * X 13 / 10000 < WO (LKX X (j + 1) l 0 (X 9)) Y (Y (j + 1)) l rt; omega)
          rw [mk, Int64.add_assoc] at t4
          have s2 := sl_up (va_up (va_up LG 0 (LG 0 + LL (X 9 * CP X Y j (10 * X 5)))) 1 (LG 1 + LL (X 9 * (10 * SK X Y j (X 5))))) (show 2 < 4 by decide) (LL (X 9 * (10 * l * X 13 / 10000)))
          rw [s1, Int64.add_assoc] at s2
          exact ⟨_, _, _, _, _, x1 + LL (X 9 * (10 * l * X 13 / 10000)), n4 c0 cu (by omega), lm.trans t4, up_eq hL1 (show 2 < 4 by decide) rfl, s2, g1, g2, g3, fr _ _, rfl, rfl⟩
      · exact ⟨_, _, _, _, _, x1, n2 c0 cu, lm.trans (t2 c0 cu), hL1, s1, hW2, hC2, hM2, fun q hq => wo q (by omega) (by omega), rfl, rfl⟩
end LKJ
