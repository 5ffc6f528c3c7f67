/-! pure: the calendar -/
def cy (n : Int) : Int := 4 * n / 1461
def cr (n : Int) : Int := n - 365 * cy n - (cy n + 3) / 4
def lpy (y : Int) : Int := if y % 4 = 0 then 1 else 0
def aw (l m : Int) : Int := if m ≤ 1 then 0 else if m ≤ 2 then 31 else if m ≤ 3 then 59 + l else if m ≤ 4 then 90 + l else if m ≤ 5 then 120 + l else if m ≤ 6 then 151 + l else if m ≤ 7 then 181 + l else if m ≤ 8 then 212 + l else if m ≤ 9 then 243 + l else if m ≤ 10 then 273 + l else if m ≤ 11 then 304 + l else if m ≤ 12 then 334 + l else 365 + l
def cm (l r : Int) : Int := if r < 31 then 1 else if r < 59 + l then 2 else if r < 90 + l then 3 else if r < 120 + l then 4 else if r < 151 + l then 5 else if r < 181 + l then 6 else if r < 212 + l then 7 else if r < 243 + l then 8 else if r < 273 + l then 9 else if r < 304 + l then 10 else if r < 334 + l then 11 else 12
def len (y m : Int) : Int := if m = 2 then (if y % 4 = 0 then 29 else 28) else if m = 4 then 30 else if m = 6 then 30 else if m = 9 then 30 else if m = 11 then 30 else 31
def mn (n : Int) : Int := cm (lpy (cy n)) (cr n)
def dn (n : Int) : Int := cr n - aw (lpy (cy n)) (mn n) + 1
def DD (n : Int) : Int := 10000 * (2016 + cy n) + 100 * mn n + dn n
theorem lpy_c (y : Int) : (lpy y = 0 ∧ y % 4 ≠ 0) ∨ (lpy y = 1 ∧ y % 4 = 0) := by unfold lpy; split <;> omega
theorem m_c {m : Int} (h1 : 1 ≤ m) (h2 : m ≤ 12) : m = 1 ∨ m = 2 ∨ m = 3 ∨ m = 4 ∨ m = 5 ∨ m = 6 ∨ m = 7 ∨ m = 8 ∨ m = 9 ∨ m = 10 ∨ m = 11 ∨ m = 12 := by omega
theorem cy_r {n : Int} (h1 : 0 ≤ n) (h2 : n ≤ 18627) : 0 ≤ cy n ∧ cy n ≤ 50 ∧ 0 ≤ cr n ∧ cr n < 365 + lpy (cy n) ∧ n = 365 * cy n + (cy n + 3) / 4 + cr n := by
  have hl := lpy_c (cy n)
  have e : cr n = n - 365 * cy n - (cy n + 3) / 4 := rfl
  have e2 : cy n = 4 * n / 1461 := rfl
  generalize lpy (cy n) = l at hl ⊢
  generalize cr n = r at e ⊢
  generalize cy n = c at *
  obtain ⟨q, j, hj0, hj4, hc⟩ : ∃ q j : Int, 0 ≤ j ∧ j < 4 ∧ c = 4 * q + j := ⟨c / 4, c % 4, by omega, by omega, by omega⟩
  rcases (show j = 0 ∨ j = 1 ∨ j = 2 ∨ j = 3 by omega) with rfl | rfl | rfl | rfl <;> omega
theorem aw_s {y l m : Int} (hl : (l = 0 ∧ y % 4 ≠ 0) ∨ (l = 1 ∧ y % 4 = 0)) (h1 : 1 ≤ m) (h2 : m ≤ 12) : aw l (m + 1) = aw l m + len y m ∧ 28 ≤ len y m ∧ len y m ≤ 31 := by
  rcases hl with ⟨rfl, h⟩ | ⟨rfl, h⟩ <;> rcases m_c h1 h2 with rfl | rfl | rfl | rfl | rfl | rfl | rfl | rfl | rfl | rfl | rfl | rfl <;> simp [aw, len, h]
theorem aw_m {l m m' : Int} (hl : l = 0 ∨ l = 1) (h : m ≤ m') : aw l m ≤ aw l m' := by
  unfold aw
  repeat' split
  all_goals omega
theorem aw_1 (l : Int) : aw l 1 = 0 := by simp [aw]
theorem aw_13 (l : Int) : aw l 13 = 365 + l := by simp [aw]
theorem cm_r {l r : Int} (hl : l = 0 ∨ l = 1) (h1 : 0 ≤ r) (h2 : r < 365 + l) : 1 ≤ cm l r ∧ cm l r ≤ 12 ∧ aw l (cm l r) ≤ r ∧ r < aw l (cm l r + 1) := by
  unfold cm
  repeat' split
  all_goals (simp only [aw]; omega)
/-- what a day's date is made of -/
theorem dd_r {n : Int} (h1 : 0 ≤ n) (h2 : n ≤ 18627) : 0 ≤ cy n ∧ cy n ≤ 50 ∧ 1 ≤ mn n ∧ mn n ≤ 12 ∧ 1 ≤ dn n ∧ dn n ≤ len (cy n) (mn n) ∧ len (cy n) (mn n) ≤ 31 ∧ n = 365 * cy n + (cy n + 3) / 4 + aw (lpy (cy n)) (mn n) + dn n - 1 ∧ DD n = 10000 * (2016 + cy n) + 100 * mn n + dn n ∧ 0 ≤ aw (lpy (cy n)) (mn n) := by
  obtain ⟨a1, a2, a3, a4, a5⟩ := cy_r h1 h2
  have hl := lpy_c (cy n)
  obtain ⟨b1, b2, b3, b4⟩ := cm_r (l := lpy (cy n)) (r := cr n) (by omega) a3 a4
  have e : mn n = cm (lpy (cy n)) (cr n) := rfl
  rw [← e] at b1 b2 b3 b4
  obtain ⟨c1, c2, c3⟩ := aw_s hl b1 b2
  have f : dn n = cr n - aw (lpy (cy n)) (mn n) + 1 := rfl
  have g := aw_m (l := lpy (cy n)) (m := 1) (m' := mn n) (by omega) b1
  rw [aw_1] at g
  refine ⟨a1, a2, b1, b2, by omega, by omega, c3, by omega, rfl, g⟩
/-- a date of the calendar is some day's -/
theorem dd_of {y m d : Int} (h1 : 0 ≤ y) (h2 : y ≤ 50) (h3 : 1 ≤ m) (h4 : m ≤ 12) (h5 : 1 ≤ d) (h6 : d ≤ len y m) : ∃ n, 0 ≤ n ∧ n ≤ 18627 ∧ cy n = y ∧ mn n = m ∧ dn n = d := by
  have hl := lpy_c y
  obtain ⟨c1, c2, c3⟩ := aw_s hl h3 h4
  have g := aw_m (l := lpy y) (m := 1) (m' := m) (by omega) h3
  have g2 := aw_m (l := lpy y) (m := m + 1) (m' := 13) (by omega) (by omega)
  rw [aw_1] at g
  rw [aw_13] at g2
  obtain ⟨n, hn⟩ : ∃ n, n = 365 * y + (y + 3) / 4 + aw (lpy y) m + d - 1 := ⟨_, rfl⟩
  have hy : cy n = y := by
    have e2 : cy n = 4 * n / 1461 := rfl
    rw [e2]
    omega
  have hr : cr n = aw (lpy y) m + d - 1 := by
    have e : cr n = n - 365 * cy n - (cy n + 3) / 4 := rfl
    rw [e, hy]
    omega
  have h0 : 0 ≤ n := by omega
  have h9 : n ≤ 18627 := by omega
  have hm : mn n = m := by
    obtain ⟨b1, b2, b3, b4⟩ := cm_r (l := lpy y) (r := cr n) (by omega) (by omega) (by omega)
    have e : mn n = cm (lpy y) (cr n) := by unfold mn; rw [hy]
    rw [← e] at b1 b2 b3 b4
    rcases Int.lt_trichotomy (mn n) m with h | h | h
    · have := aw_m (l := lpy y) (m := mn n + 1) (m' := m) (by omega) (by omega)
      omega
    · exact h
    · have := aw_m (l := lpy y) (m := m + 1) (m' := mn n) (by omega) (by omega)
      omega
  refine ⟨n, h0, h9, hy, hm, ?_⟩
  have f : dn n = cr n - aw (lpy (cy n)) (mn n) + 1 := rfl
  rw [f, hy, hm, hr]
  omega
theorem dd_lt {a b : Int} (h1 : 0 ≤ a) (h2 : a < b) (h3 : b ≤ 18627) : DD a < DD b := by
  obtain ⟨a1, a2, a3, a4, a5, a6, a7, a8, a9, a0⟩ := dd_r h1 (by omega)
  obtain ⟨b1, b2, b3, b4, b5, b6, b7, b8, b9, b0⟩ := dd_r (n := b) (by omega) h3
  have hla := lpy_c (cy a)
  have hlb := lpy_c (cy b)
  obtain ⟨c1, c2, c3⟩ := aw_s hla a3 a4
  obtain ⟨d1, d2, d3⟩ := aw_s hlb b3 b4
  have ga := aw_m (l := lpy (cy a)) (m := mn a + 1) (m' := 13) (by omega) (by omega)
  have gb := aw_m (l := lpy (cy b)) (m := mn b + 1) (m' := 13) (by omega) (by omega)
  rw [aw_13] at ga gb
  rcases Int.lt_trichotomy (cy a) (cy b) with h | h | h
  · omega
  · rw [h] at a6 a7 a8 a9 c1 c2 c3 hla
    rcases Int.lt_trichotomy (mn a) (mn b) with k | k | k
    · omega
    · rw [k] at a8
      omega
    · have := aw_m (l := lpy (cy b)) (m := mn b + 1) (m' := mn a) (by omega) (by omega)
      omega
  · omega
theorem dd_le_iff {a b : Int} (h1 : 0 ≤ a) (h2 : a ≤ 18627) (h3 : 0 ≤ b) (h4 : b ≤ 18627) : (DD a ≤ DD b) = (a ≤ b) := by
  apply propext
  constructor
  · intro h
    apply Decidable.byContradiction
    intro k
    have := dd_lt h3 (show b < a by omega) h2
    omega
  · intro h
    rcases Int.lt_or_eq_of_le h with k | k
    · exact Int.le_of_lt (dd_lt h1 k h4)
    · rw [k]; exact Int.le_refl _
theorem dd_lt_iff {a b : Int} (h1 : 0 ≤ a) (h2 : a ≤ 18627) (h3 : 0 ≤ b) (h4 : b ≤ 18627) : (DD a < DD b) = (a < b) := by
  apply propext
  have := dd_le_iff h3 h4 h1 h2
  constructor
  · intro h
    apply Decidable.byContradiction
    intro k
    have h5 : DD b ≤ DD a := by rw [this]; omega
    omega
  · intro h
    exact dd_lt h1 h h4
theorem dd_eq_iff {a b : Int} (h1 : 0 ≤ a) (h2 : a ≤ 18627) (h3 : 0 ≤ b) (h4 : b ≤ 18627) : (DD a = DD b) = (a = b) := by
  apply propext
  constructor
  · intro h
    have x := dd_le_iff h1 h2 h3 h4
    have y := dd_le_iff h3 h4 h1 h2
    have x2 : a ≤ b := by rw [← x]; omega
    have y2 : b ≤ a := by rw [← y]; omega
    omega
  · intro h; rw [h]
theorem dd_b {n : Int} (h1 : 0 ≤ n) (h2 : n ≤ 18627) : 20160101 ≤ DD n ∧ DD n ≤ 20661231 := by
  obtain ⟨a1, a2, a3, a4, a5, a6, a7, a8, a9, a0⟩ := dd_r h1 h2
  omega
theorem dd_y {n : Int} (h1 : 0 ≤ n) (h2 : n ≤ 18627) : DD n / 10000 = 2016 + cy n := by
  obtain ⟨a1, a2, a3, a4, a5, a6, a7, a8, a9, a0⟩ := dd_r h1 h2
  omega
theorem dd_m {n : Int} (h1 : 0 ≤ n) (h2 : n ≤ 18627) : DD n / 100 - DD n / 100 / 100 * 100 = mn n := by
  obtain ⟨a1, a2, a3, a4, a5, a6, a7, a8, a9, a0⟩ := dd_r h1 h2
  omega
theorem dd_d {n : Int} (h1 : 0 ≤ n) (h2 : n ≤ 18627) : DD n - DD n / 100 * 100 = dn n := by
  obtain ⟨a1, a2, a3, a4, a5, a6, a7, a8, a9, a0⟩ := dd_r h1 h2
  omega
