/-! pure: what holds between desk and reference; the first methods -/
def Inv9 (td : Int) (nh : Nat) (hd : Nat → Int) (rt : Int) (X Y : Nat → Nat → Int) (g : SG) (μ : SM) : Prop :=
  (0 ≤ td ∧ td ≤ 18567 ∧ 0 ≤ rt ∧ rt ≤ 2000 ∧ g.2.2.2.2.1 ≤ 10) ∧
  (g.1 3 = II nh ∧ g.1 4 = II g.2.2.2.2.1 ∧ g.1 5 = II (DD td) ∧ g.1 7 = II rt) ∧
  (CH nh hd g.2.2.1 ∧ MH nh hd μ.1 μ.2.2.1) ∧ (μ.1 1 = II td ∧ μ.1 3 = II rt ∧ μ.1 4 = II g.2.2.2.2.1) ∧
  (g.2.1 = μ.2.1 ∧ ∀ k, k < 4 → g.2.2.2.1 k = μ.2.2.2.2.2 k) ∧
  ∀ i, i < g.2.2.2.2.1 → WB (X i) (Y i) ∧ CB (X i) (Y i) (g.2.2.2.2.2.1 i) (g.2.2.2.2.2.2.1 i) (g.2.2.2.2.2.2.2.1 i) (g.2.2.2.2.2.2.2.2.1 i) (g.2.2.2.2.2.2.2.2.2 i) ∧ MD (X i) (Y i) μ.2.2.2.1 μ.2.2.2.2.1 i
def Inv (g : SG) (μ : SM) : Prop := ∃ (td : Int) (nh : Nat) (hd : Nat → Int) (rt : Int) (X Y : Nat → Nat → Int), Inv9 td nh hd rt X Y g μ
theorem inv_M {g : SG} {μ : SM} {M' : Nat → Int32} (h : Inv g μ) (hk : ∀ k, k ≠ 0 → M' k = μ.1 k) : Inv g (M', μ.2) := by
  obtain ⟨td, nh, hd, rt, X, Y, h1, h2, ⟨h3, h4, h5, h6⟩, ⟨h7, h8, h9⟩, h10⟩ := h
  exact ⟨td, nh, hd, rt, X, Y, h1, h2, ⟨h3, h4, (hk 5 (by decide)).trans h5, h6⟩, ⟨(hk 1 (by decide)).trans h7, (hk 3 (by decide)).trans h8, (hk 4 (by decide)).trans h9⟩, h10⟩
theorem ok_v {α β : Type} {g : SG} {μ : SM} {cs : List String} {lc : α → Int64} {lm : β → Int64} {o : Option (α ⊕ String)} {om : Option (β × SM)} (hI : Inv g μ) {v : α} {b : β} {M' : Nat → Int32} (ho : o = some (.inl v)) (hm : om = some (b, M', μ.2)) (h0 : M' 0 = 0) (hk : ∀ k, k ≠ 0 → M' k = μ.1 k) (he : lc v = lm b) : OkM Inv cs lc lm g (o.map (rw1 g)) om :=
  ⟨.inl (v, g), (b, M', μ.2), by rw [ho]; rfl, hm, (fun E h => (nomatch h)), h0, (fun u h => (by cases h; exact he)), inv_M hI hk⟩
theorem ok_x {α β : Type} {g : SG} {μ : SM} {cs : List String} {lc : α → Int64} {lm : β → Int64} {o : Option (α ⊕ String)} {om : Option (β × SM)} (hI : Inv g μ) {E : String} {b : β} {M' : Nat → Int32} (ho : o = some (.inr E)) (hE : E ∈ cs) (hm : om = some (b, M', μ.2)) (h0 : M' 0 = kE 1 cs E) (hk : ∀ k, k ≠ 0 → M' k = μ.1 k) : OkM Inv cs lc lm g (o.map (rw1 g)) om :=
  ⟨.inr E, (b, M', μ.2), by rw [ho]; rfl, hm, (fun E2 h => (by cases h; exact hE)), h0, (fun u h => (nomatch h)), inv_M hI hk⟩
/-- the same for the writing ones, where they throw -/
theorem ok_x2 {α β γ : Type} {g : SG} {μ : SM} {cs : List String} {lc : α → Int64} {lm : β → Int64} {o : Option (γ ⊕ String)} {fv : γ → α} {fg : γ → SG} {om : Option (β × SM)} (hI : Inv g μ) {E : String} {b : β} {M' : Nat → Int32} (ho : o = some (.inr E)) (hE : E ∈ cs) (hm : om = some (b, M', μ.2)) (h0 : M' 0 = kE 1 cs E) (hk : ∀ k, k ≠ 0 → M' k = μ.1 k) : OkM Inv cs lc lm g (o.map (fun r => rw2 r fv fg)) om :=
  ⟨.inr E, (b, M', μ.2), by rw [ho]; rfl, hm, (fun E2 h => (by cases h; exact hE)), h0, (fun u h => (nomatch h)), inv_M hI hk⟩
theorem ok_v2 {α β γ : Type} {g : SG} {cs : List String} {lc : α → Int64} {lm : β → Int64} {o : Option (γ ⊕ String)} {fv : γ → α} {fg : γ → SG} {om : Option (β × SM)} {u : γ} {b : β} {μ' : SM} (ho : o = some (.inl u)) (hm : om = some (b, μ')) (h0 : μ'.1 0 = 0) (he : lc (fv u) = lm b) (hI : Inv (fg u) μ') : OkM Inv cs lc lm g (o.map (fun r => rw2 r fv fg)) om :=
  ⟨.inl (fv u, fg u), (b, μ'), by rw [ho]; rfl, hm, (fun E h => (nomatch h)), h0, (fun u h => (by cases h; exact he)), hI⟩
theorem up2 (M : Nat → Int32) (a b : Int32) : ∀ k, k ≠ 0 → va_up (va_up M 0 a) 0 b k = M k := fun k hk => by rw [va_up_ne _ _ hk, va_up_ne _ _ hk]
theorem up1 (M : Nat → Int32) (a : Int32) : ∀ k, k ≠ 0 → va_up M 0 a k = M k := fun k hk => va_up_ne _ _ hk
theorem rdt (a : Int32) : (∃ n, 0 ≤ n ∧ n ≤ 18627 ∧ a = II (DD n) ∧ f_X4_requireDate a = some (.inl ()) ∧ f_X5_isDate a = some (II 1)) ∨ (f_X4_requireDate a = some (.inr "java/lang/IllegalArgumentException") ∧ f_X5_isDate a = some (II 0)) := by
  unfold f_X4_requireDate
  rcases isd a with ⟨n, n1, n2, e, e1, e5⟩ | ⟨e1, e5⟩
  · left; refine ⟨n, n1, n2, e, ?_, e5⟩
    rw [e1]
    simp (disch := omega) only [true_or, or_true, gd_T, bd_e, jn_e, bi_e, gd_t, it_e, ie_e, if_true, if_false, ii_lit, ii_add, ii_sub, ii_mul, ii_neg, ii_lt, ii_le, ii_eq, ii_nat, ii_div, ii_nI]
  · right; refine ⟨?_, e5⟩
    rw [e1]
    simp (disch := omega) only [true_or, or_true, gd_T, bd_e, jn_e, bi_e, gd_t, it_e, ie_e, if_true, if_false, ii_lit, ii_add, ii_sub, ii_mul, ii_neg, ii_lt, ii_le, ii_eq, ii_nat, ii_div, ii_nI]
theorem dd_1231 : (20661231 : Int32) = II (DD 18627) := by decide
theorem dd_1101 : (20661101 : Int32) = II (DD 18567) := by decide
theorem dv_1101 : DD 18567 = 20661101 := by decide
theorem mp_e {α β : Type} (f : α → β) (a : α) : Option.map f (some a) = some (f a) := rfl
theorem ok_later {g : SG} {μ : SM} (hI : Inv g μ) {N : Nat} (hN : 10000 ≤ N) (a0 a1 : Int32) : OkM Inv ["java/lang/IllegalArgumentException"] Int32.toInt64 Int32.toInt64 g (k_later N g a0 a1) (q_later N μ a0 a1) := by
  obtain ⟨x, hx1, hx2, rfl⟩ := rng a1
  rcases rdt a0 with ⟨n, n1, n2, rfl, e1, e5⟩ | ⟨e1, e5⟩
  · have eL := num_x1 (n := 18627) (by omega) (by omega)
    have eM := num_x5 (n := 18627) (N := N) (by omega) (by omega) (by omega)
    rw [← dd_1231] at eL eM
    by_cases c1 : -1000 ≤ x ∧ x ≤ 1000
    · by_cases c2 : 0 ≤ n + x ∧ n + x ≤ 18627
      · refine ok_v (v := II (DD (n + x))) (b := II (DD (n + x))) (M' := va_up μ.1 0 (II 0)) hI ?_ ?_ (va_up_self _ _ _) (up1 _ _) rfl
        · unfold f_X4_later
          rw [e1, eL]
          simp (disch := omega) only [true_or, or_true, gd_T, bd_e, jn_e, bi_e, gd_t, it_e, ie_e, if_true, if_false, ii_lit, ii_add, ii_sub, ii_mul, ii_neg, ii_lt, ii_le, ii_eq, ii_nat, ii_div, ii_nI, ex_i, num_x1 n1 n2, dat_x1 c2.1 c2.2 (show 100 ≤ N by omega)]
        · unfold q_later f_X5_later
          rw [e5, eM]
          simp (disch := omega) only [true_or, or_true, gd_T, bd_e, jn_e, bi_e, gd_t, it_e, ie_e, if_true, if_false, ii_lit, ii_add, ii_sub, ii_mul, ii_neg, ii_lt, ii_le, ii_eq, ii_nat, ii_div, ii_nI, num_x5 n1 n2 (show 100 ≤ N by omega), dat_x5 c2.1 c2.2 (show 100 ≤ N by omega), isin, mp_e]
      · refine ok_x (E := "java/lang/IllegalArgumentException") (b := II 0) (M' := va_up (va_up μ.1 0 (II 0)) 0 (II 1)) hI ?_ (by decide) ?_ ((va_up_self _ _ _).trans (by decide)) (up2 _ _ _)
        · unfold f_X4_later
          rw [e1, eL]
          by_cases c3 : n + x < 0
          · simp (disch := omega) only [true_or, or_true, gd_T, bd_e, jn_e, bi_e, gd_t, it_e, ie_e, if_true, if_false, ii_lit, ii_add, ii_sub, ii_mul, ii_neg, ii_lt, ii_le, ii_eq, ii_nat, ii_div, ii_nI, ex_i, num_x1 n1 n2]
          · simp (disch := omega) only [true_or, or_true, gd_T, bd_e, jn_e, bi_e, gd_t, it_e, ie_e, if_true, if_false, ii_lit, ii_add, ii_sub, ii_mul, ii_neg, ii_lt, ii_le, ii_eq, ii_nat, ii_div, ii_nI, ex_i, num_x1 n1 n2]
        · unfold q_later f_X5_later f_X5_no
          rw [e5, eM]
          simp (disch := omega) only [true_or, or_true, gd_T, bd_e, jn_e, bi_e, gd_t, it_e, ie_e, if_true, if_false, ii_lit, ii_add, ii_sub, ii_mul, ii_neg, ii_lt, ii_le, ii_eq, ii_nat, ii_div, ii_nI, num_x5 n1 n2 (show 100 ≤ N by omega), isin, mp_e]
    · refine ok_x (E := "java/lang/IllegalArgumentException") (b := II 0) (M' := va_up (va_up μ.1 0 (II 0)) 0 (II 1)) hI ?_ (by decide) ?_ ((va_up_self _ _ _).trans (by decide)) (up2 _ _ _)
      · unfold f_X4_later
        rw [e1]
        by_cases c3 : x < -1000
        · simp (disch := omega) only [true_or, or_true, gd_T, bd_e, jn_e, bi_e, gd_t, it_e, ie_e, if_true, if_false, ii_lit, ii_add, ii_sub, ii_mul, ii_neg, ii_lt, ii_le, ii_eq, ii_nat, ii_div, ii_nI, ex_i]
        · simp (disch := omega) only [true_or, or_true, gd_T, bd_e, jn_e, bi_e, gd_t, it_e, ie_e, if_true, if_false, ii_lit, ii_add, ii_sub, ii_mul, ii_neg, ii_lt, ii_le, ii_eq, ii_nat, ii_div, ii_nI, ex_i]
      · unfold q_later f_X5_later f_X5_no
        rw [e5]
        simp (disch := omega) only [true_or, or_true, gd_T, bd_e, jn_e, bi_e, gd_t, it_e, ie_e, if_true, if_false, ii_lit, ii_add, ii_sub, ii_mul, ii_neg, ii_lt, ii_le, ii_eq, ii_nat, ii_div, ii_nI, isin, mp_e]
  · refine ok_x (E := "java/lang/IllegalArgumentException") (b := II 0) (M' := va_up (va_up μ.1 0 (II 0)) 0 (II 1)) hI ?_ (by decide) ?_ ((va_up_self _ _ _).trans (by decide)) (up2 _ _ _)
    · unfold f_X4_later
      rw [e1]
      simp (disch := omega) only [true_or, or_true, gd_T, bd_e, jn_e, bi_e, gd_t, it_e, ie_e, if_true, if_false, ii_lit, ii_add, ii_sub, ii_mul, ii_neg, ii_lt, ii_le, ii_eq, ii_nat, ii_div, ii_nI, ex_e]
    · unfold q_later f_X5_later f_X5_no
      rw [e5]
      simp (disch := omega) only [true_or, or_true, gd_T, bd_e, jn_e, bi_e, gd_t, it_e, ie_e, if_true, if_false, ii_lit, ii_add, ii_sub, ii_mul, ii_neg, ii_lt, ii_le, ii_eq, ii_nat, ii_div, ii_nI, mp_e]
theorem ok_weekday {g : SG} {μ : SM} (hI : Inv g μ) {N : Nat} (hN : 10000 ≤ N) (a0 : Int32) : OkM Inv ["java/lang/IllegalArgumentException"] Int32.toInt64 Int32.toInt64 g (k_weekday N g a0) (q_weekday N μ a0) := by
  rcases rdt a0 with ⟨n, n1, n2, rfl, e1, e5⟩ | ⟨e1, e5⟩
  · refine ok_v (v := II (n + 4 - (n + 4) / 7 * 7)) (b := II (n + 4 - (n + 4) / 7 * 7)) (M' := va_up μ.1 0 (II 0)) hI ?_ ?_ (va_up_self _ _ _) (up1 _ _) rfl
    · unfold f_X4_weekday f_X1_dayOfWeek
      rw [e1]
      simp (disch := omega) only [true_or, or_true, gd_T, bd_e, jn_e, bi_e, gd_t, it_e, ie_e, if_true, if_false, ii_lit, ii_add, ii_sub, ii_mul, ii_neg, ii_lt, ii_le, ii_eq, ii_nat, ii_div, ii_nI, ex_i, num_x1 n1 n2]
    · unfold q_weekday f_X5_weekday_ f_X5_weekday
      rw [e5]
      simp (disch := omega) only [true_or, or_true, gd_T, bd_e, jn_e, bi_e, gd_t, it_e, ie_e, if_true, if_false, ii_lit, ii_add, ii_sub, ii_mul, ii_neg, ii_lt, ii_le, ii_eq, ii_nat, ii_div, ii_nI, num_x5 n1 n2 (show 100 ≤ N by omega), mp_e]
  · refine ok_x (E := "java/lang/IllegalArgumentException") (b := II 0) (M' := va_up (va_up μ.1 0 (II 0)) 0 (II 1)) hI ?_ (by decide) ?_ ((va_up_self _ _ _).trans (by decide)) (up2 _ _ _)
    · unfold f_X4_weekday
      rw [e1]
      simp (disch := omega) only [true_or, or_true, gd_T, bd_e, jn_e, bi_e, gd_t, it_e, ie_e, if_true, if_false, ii_lit, ii_add, ii_sub, ii_mul, ii_neg, ii_lt, ii_le, ii_eq, ii_nat, ii_div, ii_nI, ex_e]
    · unfold q_weekday f_X5_weekday_ f_X5_no
      rw [e5]
      simp (disch := omega) only [true_or, or_true, gd_T, bd_e, jn_e, bi_e, gd_t, it_e, ie_e, if_true, if_false, ii_lit, ii_add, ii_sub, ii_mul, ii_neg, ii_lt, ii_le, ii_eq, ii_nat, ii_div, ii_nI, mp_e]
theorem mh_up {nh : Nat} {hd : Nat → Int} {M mhol : Nat → Int32} {a : Int32} (h : MH nh hd M mhol) : MH nh hd (va_up M 0 a) mhol := ⟨h.1, (va_up_ne _ _ (by decide)).trans h.2.1, h.2.2⟩
theorem ok_working {g : SG} {μ : SM} (hI : Inv g μ) {N : Nat} (hN : 10000 ≤ N) (a0 : Int32) : OkM Inv ["java/lang/IllegalArgumentException"] Int32.toInt64 Int32.toInt64 g (k_working N g a0) (q_working N μ a0) := by
  obtain ⟨td, nh, hd, rt, X, Y, -, -, ⟨hc, hm⟩, -⟩ := id hI
  rcases rdt a0 with ⟨n, n1, n2, rfl, e1, e5⟩ | ⟨e1, e5⟩
  · have b := dd_b n1 n2
    have ec := dd_le_iff n1 n2 (show 0 ≤ (18567 : Int) by omega) (by omega)
    rw [dv_1101] at ec
    by_cases c1 : n ≤ 18567
    · obtain ⟨m, m1, m2, m3, m4⟩ := nwd hc (mh_up (a := II 0) hm) n1 c1 (show 200 ≤ N by omega)
      have c9 : DD n ≤ 20661101 := by rw [ec]; exact c1
      refine ok_v (v := II (DD m)) (b := II (DD m)) (M' := va_up μ.1 0 (II 0)) hI ?_ ?_ (va_up_self _ _ _) (up1 _ _) rfl
      · unfold f_X4_working
        rw [e1]
        simp (disch := omega) only [true_or, or_true, gd_T, bd_e, jn_e, bi_e, gd_t, it_e, ie_e, if_true, if_false, ii_lit, ii_add, ii_sub, ii_mul, ii_neg, ii_lt, ii_le, ii_eq, ii_nat, ii_div, ii_nI, ex_i, m3]
      · unfold q_working f_X5_working
        rw [e5]
        simp (disch := omega) only [true_or, or_true, gd_T, bd_e, jn_e, bi_e, gd_t, it_e, ie_e, if_true, if_false, ii_lit, ii_add, ii_sub, ii_mul, ii_neg, ii_lt, ii_le, ii_eq, ii_nat, ii_div, ii_nI, num_x5 n1 n2 (show 100 ≤ N by omega), m4, dat_x5 (n := m) (by omega) m2 (show 100 ≤ N by omega), mp_e]
    · have c9 : ¬ DD n ≤ 20661101 := by rw [ec]; exact c1
      refine ok_x (E := "java/lang/IllegalArgumentException") (b := II 0) (M' := va_up (va_up μ.1 0 (II 0)) 0 (II 1)) hI ?_ (by decide) ?_ ((va_up_self _ _ _).trans (by decide)) (up2 _ _ _)
      · unfold f_X4_working
        rw [e1]
        simp (disch := omega) only [true_or, or_true, gd_T, bd_e, jn_e, bi_e, gd_t, it_e, ie_e, if_true, if_false, ii_lit, ii_add, ii_sub, ii_mul, ii_neg, ii_lt, ii_le, ii_eq, ii_nat, ii_div, ii_nI, ex_i]
      · unfold q_working f_X5_working f_X5_no
        rw [e5]
        simp (disch := omega) only [true_or, or_true, gd_T, bd_e, jn_e, bi_e, gd_t, it_e, ie_e, if_true, if_false, ii_lit, ii_add, ii_sub, ii_mul, ii_neg, ii_lt, ii_le, ii_eq, ii_nat, ii_div, ii_nI, mp_e]
  · refine ok_x (E := "java/lang/IllegalArgumentException") (b := II 0) (M' := va_up (va_up μ.1 0 (II 0)) 0 (II 1)) hI ?_ (by decide) ?_ ((va_up_self _ _ _).trans (by decide)) (up2 _ _ _)
    · unfold f_X4_working
      rw [e1]
      simp (disch := omega) only [true_or, or_true, gd_T, bd_e, jn_e, bi_e, gd_t, it_e, ie_e, if_true, if_false, ii_lit, ii_add, ii_sub, ii_mul, ii_neg, ii_lt, ii_le, ii_eq, ii_nat, ii_div, ii_nI, ex_e]
    · unfold q_working f_X5_working f_X5_no
      rw [e5]
      simp (disch := omega) only [true_or, or_true, gd_T, bd_e, jn_e, bi_e, gd_t, it_e, ie_e, if_true, if_false, ii_lit, ii_add, ii_sub, ii_mul, ii_neg, ii_lt, ii_le, ii_eq, ii_nat, ii_div, ii_nI, mp_e]
