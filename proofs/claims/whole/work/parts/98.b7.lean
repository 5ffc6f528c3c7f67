/-! pure: the start -/
theorem dv_2026 : (20260101 : Int32) = II (DD 3653) := by decide
theorem init5 {N : Nat} (hN : 10000 ≤ N) : f_X5_init N = some (va_up (va_up (fun _ => 0) 1 (II 3653)) 3 (300 : Int32), (200000000 : Int64)) := by
  unfold f_X5_init
  rw [dv_2026, num_x5 (n := 3653) (by omega) (by omega) (show 100 ≤ N by omega)]
  rfl
theorem inv_0 : Inv g00 (va_up (va_up (fun _ => 0) 1 (II 3653)) 3 (300 : Int32), (200000000 : Int64), fun _ => 0, fun _ => 0, fun _ => 0, fun _ => 0) := by
  refine ⟨3653, 0, fun _ => 0, 300, fun _ _ => 0, fun _ _ => 0, ⟨by omega, by omega, by omega, by omega, Nat.zero_le _⟩, ⟨rfl, rfl, by decide, rfl⟩, ⟨⟨by omega, fun k hk => absurd hk (Nat.not_lt_zero k), fun k _ _ => rfl⟩, by omega, rfl, fun k hk => absurd hk (Nat.not_lt_zero k)⟩, ⟨rfl, rfl, rfl⟩, ⟨rfl, fun k _ => rfl⟩, fun i hi => absurd hi (Nat.not_lt_zero i)⟩
