/-! pure: numbers -/
def II (a : Int) : Int32 := Int32.ofInt a
def LL (a : Int) : Int64 := Int64.ofInt a
theorem ii_lit (n : Nat) : (OfNat.ofNat n : Int32) = II (OfNat.ofNat n) := Int32.toBitVec.inj (by simp [II]; rfl)
theorem ll_lit (n : Nat) : (OfNat.ofNat n : Int64) = LL (OfNat.ofNat n) := Int64.toBitVec.inj (by simp [LL]; rfl)
theorem ii_add (a b : Int) : II a + II b = II (a + b) := (Int32.ofInt_add a b).symm
theorem ii_sub (a b : Int) : II a - II b = II (a - b) := (Int32.ofInt_sub a b).symm
theorem ii_mul (a b : Int) : II a * II b = II (a * b) := (Int32.ofInt_mul a b).symm
theorem ii_neg (a : Int) : -II a = II (-a) := (Int32.ofInt_neg a).symm
theorem ll_add (a b : Int) : LL a + LL b = LL (a + b) := (Int64.ofInt_add a b).symm
theorem ll_sub (a b : Int) : LL a - LL b = LL (a - b) := (Int64.ofInt_sub a b).symm
theorem ll_mul (a b : Int) : LL a * LL b = LL (a * b) := (Int64.ofInt_mul a b).symm
theorem ll_neg (a : Int) : -LL a = LL (-a) := (Int64.ofInt_neg a).symm
theorem ii_toInt {a : Int} (h1 : -2147483648 ≤ a) (h2 : a < 2147483648) : (II a).toInt = a := Int32.toInt_ofInt_of_le (by simpa using h1) (by simpa using h2)
theorem ll_toInt {a : Int} (h1 : -9223372036854775808 ≤ a) (h2 : a < 9223372036854775808) : (LL a).toInt = a := Int64.toInt_ofInt_of_le (by simpa using h1) (by simpa using h2)
theorem ii_lt {a b : Int} (h1 : -2147483648 ≤ a) (h2 : a < 2147483648) (h3 : -2147483648 ≤ b) (h4 : b < 2147483648) : (II a < II b) = (a < b) := by rw [Int32.lt_iff_toInt_lt, ii_toInt h1 h2, ii_toInt h3 h4]
theorem ii_le {a b : Int} (h1 : -2147483648 ≤ a) (h2 : a < 2147483648) (h3 : -2147483648 ≤ b) (h4 : b < 2147483648) : (II a ≤ II b) = (a ≤ b) := by rw [Int32.le_iff_toInt_le, ii_toInt h1 h2, ii_toInt h3 h4]
theorem ii_eq {a b : Int} (h1 : -2147483648 ≤ a) (h2 : a < 2147483648) (h3 : -2147483648 ≤ b) (h4 : b < 2147483648) : (II a = II b) = (a = b) := by rw [← Int32.toInt_inj, ii_toInt h1 h2, ii_toInt h3 h4]
theorem ll_lt {a b : Int} (h1 : -9223372036854775808 ≤ a) (h2 : a < 9223372036854775808) (h3 : -9223372036854775808 ≤ b) (h4 : b < 9223372036854775808) : (LL a < LL b) = (a < b) := by rw [Int64.lt_iff_toInt_lt, ll_toInt h1 h2, ll_toInt h3 h4]
theorem ll_le {a b : Int} (h1 : -9223372036854775808 ≤ a) (h2 : a < 9223372036854775808) (h3 : -9223372036854775808 ≤ b) (h4 : b < 9223372036854775808) : (LL a ≤ LL b) = (a ≤ b) := by rw [Int64.le_iff_toInt_le, ll_toInt h1 h2, ll_toInt h3 h4]
theorem ll_eq {a b : Int} (h1 : -9223372036854775808 ≤ a) (h2 : a < 9223372036854775808) (h3 : -9223372036854775808 ≤ b) (h4 : b < 9223372036854775808) : (LL a = LL b) = (a = b) := by rw [← Int64.toInt_inj, ll_toInt h1 h2, ll_toInt h3 h4]
theorem ii_nat {a : Int} (h1 : -2147483648 ≤ a) (h2 : a < 2147483648) : (II a).toNatClampNeg = a.toNat := Int32.toNatClampNeg_ofInt_of_le (by simpa using h1) (by simpa using h2)
theorem ii_div {a b : Int} (h1 : 0 ≤ a) (h2 : a < 2147483648) (h3 : 0 < b) (h4 : b < 2147483648) : II a / II b = II (a / b) := by
  have h := Int32.ofInt_tdiv (a := a) (b := b) (by show (-2147483648 : Int) ≤ a; omega) (by show a ≤ (2147483647 : Int); omega) (by show (-2147483648 : Int) ≤ b; omega) (by show b ≤ (2147483647 : Int); omega)
  show Int32.ofInt a / Int32.ofInt b = Int32.ofInt (a / b)
  rw [← h, Int.tdiv_eq_ediv_of_nonneg h1]
theorem ll_div {a b : Int} (h1 : 0 ≤ a) (h2 : a < 9223372036854775808) (h3 : 0 < b) (h4 : b < 9223372036854775808) : LL a / LL b = LL (a / b) := by
  have h := Int64.ofInt_tdiv (a := a) (b := b) (by show (-9223372036854775808 : Int) ≤ a; omega) (by show a ≤ (9223372036854775807 : Int); omega) (by show (-9223372036854775808 : Int) ≤ b; omega) (by show b ≤ (9223372036854775807 : Int); omega)
  show Int64.ofInt a / Int64.ofInt b = Int64.ofInt (a / b)
  rw [← h, Int.tdiv_eq_ediv_of_nonneg h1]
theorem ii_toL {a : Int} (h1 : -2147483648 ≤ a) (h2 : a < 2147483648) : (II a).toInt64 = LL a := Int32.toInt64_ofInt (by show (-2147483648 : Int) ≤ a; omega) (by show a ≤ (2147483647 : Int); omega)
theorem ll_toI (a : Int) : (LL a).toInt32 = II a := Int64.toInt32_ofInt
theorem ii_nI (n : Nat) : nI n = II n := Int32.ofInt_eq_ofNat.symm
theorem gd_t {β : Type} {c : Prop} {_ : Decidable c} {k : Option β} (h : c) : gd c k = k := by unfold gd; rw [if_pos h]
theorem bd_e {α β : Type} (x : α) (k : α → Option β) : bd x k = k x := rfl
theorem jn_e {β γ : Type} (b : β) (k : β → γ) : jn b k = k b := rfl
theorem ex_i {α β : Type} (v : α) (k : α → Option (β ⊕ String)) : ex (some (.inl v)) k = k v := rfl
theorem ex_e {α β : Type} (E : String) (k : α → Option (β ⊕ String)) : ex (some (.inr E)) k = some (.inr E) := rfl
theorem bi_e {α β : Type} (v : α) (k : α → Option β) : (some v).bind k = k v := rfl
theorem it_e {β : Type} {c : Prop} {_ : Decidable c} {a b : β} (h : c) : (if c then a else b) = a := if_pos h
theorem ie_e {β : Type} {c : Prop} {_ : Decidable c} {a b : β} (h : ¬ c) : (if c then a else b) = b := if_neg h
