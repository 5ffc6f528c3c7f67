/-! pure: the next working day: 30 holidays can't close 45 days -/
theorem pig {hd : Nat → Int} : ∀ (nh : Nat) (L : List Int), L.Nodup → (∀ x ∈ L, HD nh hd x) → L.length ≤ nh
  | 0, L, _, h => by
    cases L with
    | nil => exact Nat.le_refl _
    | cons a L =>
      obtain ⟨k, hk, _⟩ := h a List.mem_cons_self
      omega
  | nh + 1, L, hn, h => by
    by_cases c : hd nh ∈ L
    · have h1 := pig nh (L.erase (hd nh)) (hn.erase _) (fun x hx => by
        have hx2 := (List.Nodup.mem_erase_iff hn).mp hx
        obtain ⟨k, hk, e⟩ := h x hx2.2
        by_cases ck : k = nh
        · subst ck; exact absurd e.symm hx2.1
        · exact ⟨k, by omega, e⟩)
      rw [List.length_erase_of_mem c] at h1
      omega
    · have h1 := pig nh L hn (fun x hx => by
        obtain ⟨k, hk, e⟩ := h x hx
        by_cases ck : k = nh
        · subst ck; exact absurd (e ▸ hx) c
        · exact ⟨k, by omega, e⟩)
      omega
theorem wk_ex {nh : Nat} {hd : Nat → Int} (h30 : nh ≤ 30) {n : Int} (h1 : 0 ≤ n) : ∃ k : Nat, k < 45 ∧ WK nh hd (n + k) := by
  apply Classical.byContradiction
  intro hno
  have hall : ∀ k : Nat, k < 45 → (n + k + 4) % 7 < 5 → HD nh hd (n + k) := fun k hk hw => Classical.byContradiction fun hh => hno ⟨k, hk, hw, hh⟩
  obtain ⟨r, hr, q, hq⟩ : ∃ r : Nat, r < 7 ∧ ∃ q : Int, n = 7 * q + r := ⟨(n % 7).toNat, by omega, n / 7, by omega⟩
  have key : ∀ L : List Nat, L.Nodup → (∀ k ∈ L, k < 45 ∧ (r + k + 4) % 7 < 5) → L.length ≤ nh := fun L hL hk => by
    have := pig nh (L.map (fun k : Nat => n + k)) ((List.pairwise_map).mpr (hL.imp (fun hab he => hab (by omega)))) (fun x hx => by
      obtain ⟨k, hk9, e⟩ := List.mem_map.mp hx
      subst e
      obtain ⟨a, b⟩ := hk k hk9
      exact hall k a (by omega))
    rw [List.length_map] at this
    exact this
  have fin : ∀ r : Nat, r < 7 → 31 ≤ ((List.range 45).filter (fun k => decide ((r + k + 4) % 7 < 5))).length := by decide
  have := key ((List.range 45).filter (fun k => decide ((r + k + 4) % 7 < 5))) (List.nodup_range.filter _) (fun k hk => by
    obtain ⟨a, b⟩ := List.mem_filter.mp hk
    exact ⟨List.mem_range.mp a, of_decide_eq_true b⟩)
  have := fin r hr
  omega
theorem least {p : Nat → Prop} : ∀ (B : Nat), (∃ k, k < B ∧ p k) → ∃ k, k < B ∧ p k ∧ ∀ i, i < k → ¬ p i
  | 0, ⟨k, h, _⟩ => absurd h (Nat.not_lt_zero k)
  | B + 1, ⟨k, h, hp⟩ => by
    by_cases c : ∃ k, k < B ∧ p k
    · obtain ⟨k', a, b, d⟩ := least B c
      exact ⟨k', by omega, b, d⟩
    · have e : k = B := by
        apply Decidable.byContradiction; intro hne
        exact c ⟨k, by omega, hp⟩
      subst e
      exact ⟨k, h, hp, fun i hi hpi => c ⟨i, hi, hpi⟩⟩
theorem nwd_L {nh : Nat} {hd : Nat → Int} {hol : Nat → Int32} (h : CH nh hd hol) {n : Int} (h1 : 0 ≤ n) (h2 : n ≤ 18567) {k0 : Nat} (hk0 : k0 < 45) (hw : WK nh hd (n + k0)) (hl : ∀ i, i < k0 → ¬ WK nh hd (n + i)) {a0 : Int32} {N : Nat} (hN : 200 ≤ N) {K3 : Int32 → Option Int32} : ∀ (d j : Nat), j + d = k0 → ∀ N9 : Nat, d + 1 ≤ N9 → f_X4_nextWorkingDate_L7 a0 N hol (II n) K3 N9 (II j) = K3 (II k0)
  | 0, j, hj, N9, hN9 => by
    obtain ⟨N9, rfl⟩ : ∃ N', N9 = N' + 1 := ⟨N9 - 1, by omega⟩
    have e : j = k0 := by omega
    subst e
    unfold f_X4_nextWorkingDate_L7
    rcases wk_c h (n := n + j) (by omega) (by omega) hN with ⟨a, b⟩ | ⟨a, b⟩
    · simp (disch := omega) only [true_or, or_true, gd_T, bd_e, jn_e, bi_e, gd_t, it_e, ie_e, if_true, if_false, ii_lit, ii_add, ii_sub, ii_mul, ii_neg, ii_lt, ii_le, ii_eq, ii_nat, ii_div, ii_nI, b]
    · exact absurd hw a
  | d + 1, j, hj, N9, hN9 => by
    obtain ⟨N9, rfl⟩ : ∃ N', N9 = N' + 1 := ⟨N9 - 1, by omega⟩
    have e : ((j : Int) + 1) = ((j + 1 : Nat) : Int) := by omega
    have ih := nwd_L h h1 h2 hk0 hw hl (a0 := a0) hN (K3 := K3) d (j + 1) (by omega) N9 (by omega)
    unfold f_X4_nextWorkingDate_L7
    rcases wk_c h (n := n + j) (by omega) (by omega) hN with ⟨a, b⟩ | ⟨a, b⟩
    · exact absurd a (hl j (by omega))
    · simp (disch := omega) only [true_or, or_true, gd_T, bd_e, jn_e, bi_e, gd_t, it_e, ie_e, if_true, if_false, ii_lit, ii_add, ii_sub, ii_mul, ii_neg, ii_lt, ii_le, ii_eq, ii_nat, ii_div, ii_nI, b, e]
      exact ih
theorem fwd_L {nh : Nat} {hd : Nat → Int} {M mhol : Nat → Int32} (h : MH nh hd M mhol) {n : Int} (h1 : 0 ≤ n) (h2 : n ≤ 18567) {k0 : Nat} (hk0 : k0 < 45) (hw : WK nh hd (n + k0)) (hl : ∀ i, i < k0 → ¬ WK nh hd (n + i)) {N : Nat} (hN : 200 ≤ N) : ∀ (d j : Nat), j + d = k0 → ∀ N9 : Nat, d + 1 ≤ N9 → f_X5_firstWorking_L2 N M mhol N9 (II (n + j)) = some (II (n + k0))
  | 0, j, hj, N9, hN9 => by
    obtain ⟨N9, rfl⟩ : ∃ N', N9 = N' + 1 := ⟨N9 - 1, by omega⟩
    have e : j = k0 := by omega
    subst e
    unfold f_X5_firstWorking_L2
    rcases wk_m h (n := n + j) (by omega) (by omega) hN with ⟨a, b⟩ | ⟨a, b⟩
    · simp (disch := omega) only [true_or, or_true, gd_T, bd_e, jn_e, bi_e, gd_t, it_e, ie_e, if_true, if_false, ii_lit, ii_add, ii_sub, ii_mul, ii_neg, ii_lt, ii_le, ii_eq, ii_nat, ii_div, ii_nI, b]
    · exact absurd hw a
  | d + 1, j, hj, N9, hN9 => by
    obtain ⟨N9, rfl⟩ : ∃ N', N9 = N' + 1 := ⟨N9 - 1, by omega⟩
    have e : n + (j : Int) + 1 = n + ((j + 1 : Nat) : Int) := by omega
    have ih := fwd_L h h1 h2 hk0 hw hl hN d (j + 1) (by omega) N9 (by omega)
    unfold f_X5_firstWorking_L2
    rcases wk_m h (n := n + j) (by omega) (by omega) hN with ⟨a, b⟩ | ⟨a, b⟩
    · exact absurd a (hl j (by omega))
    · simp (disch := omega) only [true_or, or_true, gd_T, bd_e, jn_e, bi_e, gd_t, it_e, ie_e, if_true, if_false, ii_lit, ii_add, ii_sub, ii_mul, ii_neg, ii_lt, ii_le, ii_eq, ii_nat, ii_div, ii_nI, b, e]
      exact ih
/-- the next working day, of class and reference -/
theorem nwd {nh : Nat} {hd : Nat → Int} {hol M mhol : Nat → Int32} (hc : CH nh hd hol) (hm : MH nh hd M mhol) {n : Int} (h1 : 0 ≤ n) (h2 : n ≤ 18567) {N : Nat} (hN : 200 ≤ N) : ∃ m, n ≤ m ∧ m ≤ 18627 ∧ f_X4_nextWorkingDate N hol (II (DD n)) = some (II (DD m)) ∧ f_X5_firstWorking N M mhol (II n) = some (II m) := by
  obtain ⟨k0, a, b, c⟩ := least 45 (wk_ex (hd := hd) hc.1 h1)
  refine ⟨n + k0, by omega, by omega, ?_, ?_⟩
  · unfold f_X4_nextWorkingDate
    have ez : II ((0 : Nat) : Int) = II 0 := rfl
    have e := nwd_L hc h1 h2 a b c (a0 := II (DD n)) hN (K3 := fun x4 : Int32 => (f_X1_dateOf N (II n + x4)).bind fun v10 : Int32 => some v10) k0 0 (by omega) N (by omega)
    rw [ez] at e
    simp (disch := omega) only [true_or, or_true, gd_T, bd_e, jn_e, bi_e, gd_t, it_e, ie_e, if_true, if_false, ii_lit, ii_add, ii_sub, ii_mul, ii_neg, ii_lt, ii_le, ii_eq, ii_nat, ii_div, ii_nI, num_x1 h1 (show n ≤ 18627 by omega)]
    rw [e]
    simp (disch := omega) only [true_or, or_true, gd_T, bd_e, jn_e, bi_e, gd_t, it_e, ie_e, if_true, if_false, ii_lit, ii_add, ii_sub, ii_mul, ii_neg, ii_lt, ii_le, ii_eq, ii_nat, ii_div, ii_nI, dat_x1 (n := n + k0) (by omega) (by omega) (show 100 ≤ N by omega)]
  · unfold f_X5_firstWorking
    have e := fwd_L hm h1 h2 a b c hN k0 0 (by omega) N (by omega)
    have ez : n + ((0 : Nat) : Int) = n := by omega
    rw [ez] at e
    exact e
