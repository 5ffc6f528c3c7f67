/-! pure: all agree -/
theorem ok_all : OkAll 10000 Inv := by
  intro g μ hI
  have hN : 10000 ≤ 10000 := Nat.le_refl _
  have hn0 : (g.1 4).toNatClampNeg = g.2.2.2.2.1 := by
    obtain ⟨td, nh, hd, rt, X, Y, h9⟩ := id hI
    have hnb := h9.1.2.2.2.2
    rw [h9.2.1.2.1, ii_nat (by omega) (by omega)]
    exact Int.toNat_natCast _
  exact ⟨hn0, fun a0 a1 => ok_later hI hN a0 a1, fun a0 => ok_weekday hI hN a0, fun a0 => ok_addHoliday hI hN a0, fun a0 => ok_working hI hN a0, fun a0 a1 a2 a3 a4 => ok_addBond hI hN a0 a1 a2 a3 a4, fun a0 a1 a2 => ok_setSink hI hN a0 a1 a2, fun a0 a1 a2 => ok_setCall hI hN a0 a1 a2, fun a0 => ok_setRate hI a0, fun a0 a1 => ok_bond hI hN a0 a1, fun a0 a1 a2 => ok_coupon hI hN a0 a1 a2, fun a0 a1 => ok_accrued hI hN a0 a1, fun a0 a1 => ok_worth hI hN a0 a1, fun a0 a1 => ok_yields hI hN a0 a1, fun a0 a1 => ok_moves hI hN a0 a1, fun a0 => ok_callsAt hI hN a0, fun a0 a1 a2 => ok_buy hI hN a0 a1 a2, fun a0 a1 a2 => ok_sell hI hN a0 a1 a2, fun a0 => ok_pass hI hN a0, fun a0 => ok_count hI hN a0, fun a0 => ok_paysIn hI hN a0, fun a0 a1 => ok_ladder hI hN a0 a1, fun a0 => ok_best hI hN a0, ok_years hI hN, ok_digest hI hN⟩
