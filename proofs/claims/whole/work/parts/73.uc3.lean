/-! the public methods over the whole desk (printed by gen3.py) -/
theorem bn_bad {nb : Nat} {a0 : Int32} (hi : ¬ a0.toNatClampNeg < nb) : f_X4_bondNumbered nb a0 = some (.inr "java/lang/IndexOutOfBoundsException") := by
  unfold f_X4_bondNumbered
  by_cases h1 : a0 < 0
  · rw [if_pos h1]
  · rw [if_neg h1]
    by_cases h2 : 10 ≤ a0
    · rw [if_pos h2]
    · rw [if_neg h2, if_neg hi]
      unfold gd
      rw [if_pos]
      intro h
      rcases h with h | h
      · exact h1 h
      · apply h2
        have e1 : ¬ a0.toInt < 0 := fun e => h1 (Int32.lt_iff_toInt_lt.mpr e)
        refine Int32.le_iff_toInt_le.mpr ?_
        have e2 : a0.toNatClampNeg = a0.toInt.toNat := rfl
        have e3 : (10 : Int32).toInt = 10 := by decide
        rw [e2] at h
        rw [e3]
        omega
set_option maxHeartbeats 4000000 in
set_option maxRecDepth 100000 in
theorem b_X4_setSink (l : Launch) (D : va_G) (cI cJ cO : ClassId) (ah qk qh qb ql : Nat) (ab : Nat → Nat) (K : Nat → Int32) (kc : Int64) (hol : Nat → Int32) (LG : Nat → Int64) (nb sz : Nat) (a0 : Int32) (a1 : Int32) (a2 : Int32) (hl0 : l.stackTraces = false) (E0 : String) (hbad : f_X4_bondNumbered nb a0 = some (.inr E0)) : vx_Met l yX4_setSink wsX4_setSink ({ frames := 7, cells := 3, slots := 18, locals := 104 }) (va_Pc [.ref qk, .int a0, .int a1, .int a2] (tP D (ty3 cI cJ cO) (some ah) [eK qk qh qb ql K kc, eG cI qh hol, eF cO qb nb ab, eL ql LG] sz)) (fun _ _ _ _ => False) (XT (α := Unit) (.inr E0)) 3 18 (va_A [eK qk qh qb ql K kc, eG cI qh hol, eF cO qb nb ab, eL ql LG] sz) := by
  refine vx_ofW (cc := cX4_setSink) (maxL := 5) (ret := (some .int)) (by decide) rfl ?_
  intro p e s m args below meth c s₁ Bd hml hte hv
  obtain ⟨rfl, ⟨hsz, hZ, hP, hK, hD0⟩, hT⟩ := hv
  have hx := Bd.exec
  have hb := Bd.bytes
  have hr := Bd.returns
  have hts := atoms_spec (ws := wsX4_setSink) Bd.pre
  have hown : s.vm.findClass RX4 = some m.cls := findClass_of_methodNamed Bd.named
  have hlocks := Bd.notSynchronized
  subst hsz
  have hD := hD0.self (sz := s.heap.size)
  generalize hAe : va_A [eK qk qh qb ql K kc, eG cI qh hol, eF cO qb nb ab, eL ql LG] s.heap.size = A at hD hZ hT ⊢
  have hA : ∀ q : Nat, s.heap.size ≤ q → A q := fun q h => by rw [← hAe]; exact Or.inr h
  have hS : va_S A s.heap s.heap [] := va_S.rf
  have hl := lv_entry ([.ref qk, .int a0, .int a1, .int a2]) (n := 5) (Nat.le_of_ble_eq_true rfl)
  rw [lg_entry_eq]
  generalize (lg_sl ([.ref qk, .int a0, .int a1, .int a2]) ++ List.replicate (5 - (lg_sl ([.ref qk, .int a0, .int a1, .int a2])).length) Slot.unset).toArray = ls at hl ⊢
  have hl : lv_has ls 5 [(0, .ref qk), (1, .int a0), (2, .int a1), (3, .int a2)] := hl
  refine lv_aload_n hx hb dX4_setSink_0 rfl (lv_at hl 0 rfl) ?_
  refine lv_iload_n hx hb dX4_setSink_1 rfl (lv_at hl 1 rfl) ?_
  obtain ⟨v1, hv1⟩ : ∃ v, f_X4_bondNumbered nb a0 = some v := ⟨_, hbad⟩
  refine xSr (ad := ab) (vx_runV (As := [.int a0]) (rest := []) ⟨hx, hb, hml, hown, hts⟩ (m_X4_bondNumbered l D cI cJ cO ah qk qh qb ql ab K kc hol LG nb a0 v1 hl0 hv1) (cwV 1 hts gX4_setSink_X4_bondNumbered rfl rfl rfl (by decide +kernel) ⟨(Nat.le_of_ble_eq_true rfl), (Nat.le_of_ble_eq_true rfl)⟩) ⟨pT_blind, va_recv hK hP (ci := 3) (q0 := 0) rfl rfl, fun U hU hW => ⟨rfl, pw_at hZ hS hP hK hU hW (Or.inr rfl) [0, 1, 2, 3] rfl, pX_at hT hS hU hW⟩⟩ rfl rfl hl.1 rfl (lv_room (Nat.le_of_ble_eq_true rfl)) dX4_setSink_2 ⟨(Nat.le_of_ble_eq_true rfl), (Nat.le_of_ble_eq_true rfl)⟩) (fun E ce q9 H1 locs1 hE hz9 hk9 hS9 hc9 hv9 hl9 => vx_widen (k := 3) (n := 18) (Nat.le_of_ble_eq_true rfl) (Nat.le_of_ble_eq_true rfl) (vx_out (fun x h => (hte x h).elim) hlocks hc9 hv9 hl9 (fun t ht _ => ⟨(by have e := hv1.symm.trans hbad; cases e; cases hE; rfl), by rw [ht]; exact hz9, fun q h3 _ => by rw [ht]; exact hk9 q h3⟩) (fun z hz => absurd hz (by rw [hS9]; exact List.not_mem_nil)) (Nat.le_refl _) (Nat.le_refl _))) (fun v2 ev2 => ?_)
  have e := hv1.symm.trans hbad
  cases e
  cases ev2

set_option maxHeartbeats 4000000 in
set_option maxRecDepth 100000 in
theorem b_X4_setCall (l : Launch) (D : va_G) (cI cJ cO : ClassId) (ah qk qh qb ql : Nat) (ab : Nat → Nat) (K : Nat → Int32) (kc : Int64) (hol : Nat → Int32) (LG : Nat → Int64) (nb sz : Nat) (a0 : Int32) (a1 : Int32) (a2 : Int32) (hl0 : l.stackTraces = false) (E0 : String) (hbad : f_X4_bondNumbered nb a0 = some (.inr E0)) : vx_Met l yX4_setCall wsX4_setCall ({ frames := 7, cells := 3, slots := 18, locals := 104 }) (va_Pc [.ref qk, .int a0, .int a1, .int a2] (tP D (ty3 cI cJ cO) (some ah) [eK qk qh qb ql K kc, eG cI qh hol, eF cO qb nb ab, eL ql LG] sz)) (fun _ _ _ _ => False) (XT (α := Unit) (.inr E0)) 3 18 (va_A [eK qk qh qb ql K kc, eG cI qh hol, eF cO qb nb ab, eL ql LG] sz) := by
  refine vx_ofW (cc := cX4_setCall) (maxL := 5) (ret := (some .int)) (by decide) rfl ?_
  intro p e s m args below meth c s₁ Bd hml hte hv
  obtain ⟨rfl, ⟨hsz, hZ, hP, hK, hD0⟩, hT⟩ := hv
  have hx := Bd.exec
  have hb := Bd.bytes
  have hr := Bd.returns
  have hts := atoms_spec (ws := wsX4_setCall) Bd.pre
  have hown : s.vm.findClass RX4 = some m.cls := findClass_of_methodNamed Bd.named
  have hlocks := Bd.notSynchronized
  subst hsz
  have hD := hD0.self (sz := s.heap.size)
  generalize hAe : va_A [eK qk qh qb ql K kc, eG cI qh hol, eF cO qb nb ab, eL ql LG] s.heap.size = A at hD hZ hT ⊢
  have hA : ∀ q : Nat, s.heap.size ≤ q → A q := fun q h => by rw [← hAe]; exact Or.inr h
  have hS : va_S A s.heap s.heap [] := va_S.rf
  have hl := lv_entry ([.ref qk, .int a0, .int a1, .int a2]) (n := 5) (Nat.le_of_ble_eq_true rfl)
  rw [lg_entry_eq]
  generalize (lg_sl ([.ref qk, .int a0, .int a1, .int a2]) ++ List.replicate (5 - (lg_sl ([.ref qk, .int a0, .int a1, .int a2])).length) Slot.unset).toArray = ls at hl ⊢
  have hl : lv_has ls 5 [(0, .ref qk), (1, .int a0), (2, .int a1), (3, .int a2)] := hl
  refine lv_aload_n hx hb dX4_setCall_0 rfl (lv_at hl 0 rfl) ?_
  refine lv_iload_n hx hb dX4_setCall_1 rfl (lv_at hl 1 rfl) ?_
  obtain ⟨v1, hv1⟩ : ∃ v, f_X4_bondNumbered nb a0 = some v := ⟨_, hbad⟩
  refine xSr (ad := ab) (vx_runV (As := [.int a0]) (rest := []) ⟨hx, hb, hml, hown, hts⟩ (m_X4_bondNumbered l D cI cJ cO ah qk qh qb ql ab K kc hol LG nb a0 v1 hl0 hv1) (cwV 1 hts gX4_setCall_X4_bondNumbered rfl rfl rfl (by decide +kernel) ⟨(Nat.le_of_ble_eq_true rfl), (Nat.le_of_ble_eq_true rfl)⟩) ⟨pT_blind, va_recv hK hP (ci := 3) (q0 := 0) rfl rfl, fun U hU hW => ⟨rfl, pw_at hZ hS hP hK hU hW (Or.inr rfl) [0, 1, 2, 3] rfl, pX_at hT hS hU hW⟩⟩ rfl rfl hl.1 rfl (lv_room (Nat.le_of_ble_eq_true rfl)) dX4_setCall_2 ⟨(Nat.le_of_ble_eq_true rfl), (Nat.le_of_ble_eq_true rfl)⟩) (fun E ce q9 H1 locs1 hE hz9 hk9 hS9 hc9 hv9 hl9 => vx_widen (k := 3) (n := 18) (Nat.le_of_ble_eq_true rfl) (Nat.le_of_ble_eq_true rfl) (vx_out (fun x h => (hte x h).elim) hlocks hc9 hv9 hl9 (fun t ht _ => ⟨(by have e := hv1.symm.trans hbad; cases e; cases hE; rfl), by rw [ht]; exact hz9, fun q h3 _ => by rw [ht]; exact hk9 q h3⟩) (fun z hz => absurd hz (by rw [hS9]; exact List.not_mem_nil)) (Nat.le_refl _) (Nat.le_refl _))) (fun v2 ev2 => ?_)
  have e := hv1.symm.trans hbad
  cases e
  cases ev2

set_option maxHeartbeats 4000000 in
set_option maxRecDepth 100000 in
theorem b_X4_buy (l : Launch) (D : va_G) (cI cJ cO : ClassId) (ah qk qh qb ql : Nat) (ab : Nat → Nat) (K : Nat → Int32) (kc : Int64) (hol : Nat → Int32) (LG : Nat → Int64) (nb sz : Nat) (a0 : Int32) (a1 : Int32) (a2 : Int32) (hl0 : l.stackTraces = false) (E0 : String) (hbad : f_X4_bondNumbered nb a0 = some (.inr E0)) : vx_Met l yX4_buy wsX4_buy ({ frames := 7, cells := 6, slots := 36, locals := 115 }) (va_Pc [.ref qk, .int a0, .int a1, .int a2] (tP D (ty3 cI cJ cO) (some ah) [eK qk qh qb ql K kc, eG cI qh hol, eF cO qb nb ab, eL ql LG] sz)) (fun _ _ _ _ => False) (XT (α := Unit) (.inr E0)) 6 36 (va_A [eK qk qh qb ql K kc, eG cI qh hol, eF cO qb nb ab, eL ql LG] sz) := by
  refine vx_ofW (cc := cX4_buy) (maxL := 7) (ret := (some .long)) (by decide) rfl ?_
  intro p e s m args below meth c s₁ Bd hml hte hv
  obtain ⟨rfl, ⟨hsz, hZ, hP, hK, hD0⟩, hT⟩ := hv
  have hx := Bd.exec
  have hb := Bd.bytes
  have hr := Bd.returns
  have hts := atoms_spec (ws := wsX4_buy) Bd.pre
  have hown : s.vm.findClass RX4 = some m.cls := findClass_of_methodNamed Bd.named
  have hlocks := Bd.notSynchronized
  subst hsz
  have hD := hD0.self (sz := s.heap.size)
  generalize hAe : va_A [eK qk qh qb ql K kc, eG cI qh hol, eF cO qb nb ab, eL ql LG] s.heap.size = A at hD hZ hT ⊢
  have hA : ∀ q : Nat, s.heap.size ≤ q → A q := fun q h => by rw [← hAe]; exact Or.inr h
  have hS : va_S A s.heap s.heap [] := va_S.rf
  have hl := lv_entry ([.ref qk, .int a0, .int a1, .int a2]) (n := 7) (Nat.le_of_ble_eq_true rfl)
  rw [lg_entry_eq]
  generalize (lg_sl ([.ref qk, .int a0, .int a1, .int a2]) ++ List.replicate (7 - (lg_sl ([.ref qk, .int a0, .int a1, .int a2])).length) Slot.unset).toArray = ls at hl ⊢
  have hl : lv_has ls 7 [(0, .ref qk), (1, .int a0), (2, .int a1), (3, .int a2)] := hl
  refine lv_aload_n hx hb dX4_buy_0 rfl (lv_at hl 0 rfl) ?_
  refine lv_iload_n hx hb dX4_buy_1 rfl (lv_at hl 1 rfl) ?_
  obtain ⟨v1, hv1⟩ : ∃ v, f_X4_bondNumbered nb a0 = some v := ⟨_, hbad⟩
  refine xSr (ad := ab) (vx_runV (As := [.int a0]) (rest := []) ⟨hx, hb, hml, hown, hts⟩ (m_X4_bondNumbered l D cI cJ cO ah qk qh qb ql ab K kc hol LG nb a0 v1 hl0 hv1) (cwV 1 hts gX4_buy_X4_bondNumbered rfl rfl rfl (by decide +kernel) ⟨(Nat.le_of_ble_eq_true rfl), (Nat.le_of_ble_eq_true rfl)⟩) ⟨pT_blind, va_recv hK hP (ci := 3) (q0 := 0) rfl rfl, fun U hU hW => ⟨rfl, pw_at hZ hS hP hK hU hW (Or.inr rfl) [0, 1, 2, 3] rfl, pX_at hT hS hU hW⟩⟩ rfl rfl hl.1 rfl (lv_room (Nat.le_of_ble_eq_true rfl)) dX4_buy_2 ⟨(Nat.le_of_ble_eq_true rfl), (Nat.le_of_ble_eq_true rfl)⟩) (fun E ce q9 H1 locs1 hE hz9 hk9 hS9 hc9 hv9 hl9 => vx_widen (k := 6) (n := 36) (Nat.le_of_ble_eq_true rfl) (Nat.le_of_ble_eq_true rfl) (vx_out (fun x h => (hte x h).elim) hlocks hc9 hv9 hl9 (fun t ht _ => ⟨(by have e := hv1.symm.trans hbad; cases e; cases hE; rfl), by rw [ht]; exact hz9, fun q h3 _ => by rw [ht]; exact hk9 q h3⟩) (fun z hz => absurd hz (by rw [hS9]; exact List.not_mem_nil)) (Nat.le_refl _) (Nat.le_refl _))) (fun v2 ev2 => ?_)
  have e := hv1.symm.trans hbad
  cases e
  cases ev2

set_option maxHeartbeats 4000000 in
set_option maxRecDepth 100000 in
theorem b_X4_sell (l : Launch) (D : va_G) (cI cJ cO : ClassId) (ah qk qh qb ql : Nat) (ab : Nat → Nat) (K : Nat → Int32) (kc : Int64) (hol : Nat → Int32) (LG : Nat → Int64) (nb sz : Nat) (a0 : Int32) (a1 : Int32) (a2 : Int32) (hl0 : l.stackTraces = false) (E0 : String) (hbad : f_X4_bondNumbered nb a0 = some (.inr E0)) : vx_Met l yX4_sell wsX4_sell ({ frames := 7, cells := 5, slots := 30, locals := 115 }) (va_Pc [.ref qk, .int a0, .int a1, .int a2] (tP D (ty3 cI cJ cO) (some ah) [eK qk qh qb ql K kc, eG cI qh hol, eF cO qb nb ab, eL ql LG] sz)) (fun _ _ _ _ => False) (XT (α := Unit) (.inr E0)) 5 30 (va_A [eK qk qh qb ql K kc, eG cI qh hol, eF cO qb nb ab, eL ql LG] sz) := by
  refine vx_ofW (cc := cX4_sell) (maxL := 7) (ret := (some .long)) (by decide) rfl ?_
  intro p e s m args below meth c s₁ Bd hml hte hv
  obtain ⟨rfl, ⟨hsz, hZ, hP, hK, hD0⟩, hT⟩ := hv
  have hx := Bd.exec
  have hb := Bd.bytes
  have hr := Bd.returns
  have hts := atoms_spec (ws := wsX4_sell) Bd.pre
  have hown : s.vm.findClass RX4 = some m.cls := findClass_of_methodNamed Bd.named
  have hlocks := Bd.notSynchronized
  subst hsz
  have hD := hD0.self (sz := s.heap.size)
  generalize hAe : va_A [eK qk qh qb ql K kc, eG cI qh hol, eF cO qb nb ab, eL ql LG] s.heap.size = A at hD hZ hT ⊢
  have hA : ∀ q : Nat, s.heap.size ≤ q → A q := fun q h => by rw [← hAe]; exact Or.inr h
  have hS : va_S A s.heap s.heap [] := va_S.rf
  have hl := lv_entry ([.ref qk, .int a0, .int a1, .int a2]) (n := 7) (Nat.le_of_ble_eq_true rfl)
  rw [lg_entry_eq]
  generalize (lg_sl ([.ref qk, .int a0, .int a1, .int a2]) ++ List.replicate (7 - (lg_sl ([.ref qk, .int a0, .int a1, .int a2])).length) Slot.unset).toArray = ls at hl ⊢
  have hl : lv_has ls 7 [(0, .ref qk), (1, .int a0), (2, .int a1), (3, .int a2)] := hl
  refine lv_aload_n hx hb dX4_sell_0 rfl (lv_at hl 0 rfl) ?_
  refine lv_iload_n hx hb dX4_sell_1 rfl (lv_at hl 1 rfl) ?_
  obtain ⟨v1, hv1⟩ : ∃ v, f_X4_bondNumbered nb a0 = some v := ⟨_, hbad⟩
  refine xSr (ad := ab) (vx_runV (As := [.int a0]) (rest := []) ⟨hx, hb, hml, hown, hts⟩ (m_X4_bondNumbered l D cI cJ cO ah qk qh qb ql ab K kc hol LG nb a0 v1 hl0 hv1) (cwV 1 hts gX4_sell_X4_bondNumbered rfl rfl rfl (by decide +kernel) ⟨(Nat.le_of_ble_eq_true rfl), (Nat.le_of_ble_eq_true rfl)⟩) ⟨pT_blind, va_recv hK hP (ci := 3) (q0 := 0) rfl rfl, fun U hU hW => ⟨rfl, pw_at hZ hS hP hK hU hW (Or.inr rfl) [0, 1, 2, 3] rfl, pX_at hT hS hU hW⟩⟩ rfl rfl hl.1 rfl (lv_room (Nat.le_of_ble_eq_true rfl)) dX4_sell_2 ⟨(Nat.le_of_ble_eq_true rfl), (Nat.le_of_ble_eq_true rfl)⟩) (fun E ce q9 H1 locs1 hE hz9 hk9 hS9 hc9 hv9 hl9 => vx_widen (k := 5) (n := 30) (Nat.le_of_ble_eq_true rfl) (Nat.le_of_ble_eq_true rfl) (vx_out (fun x h => (hte x h).elim) hlocks hc9 hv9 hl9 (fun t ht _ => ⟨(by have e := hv1.symm.trans hbad; cases e; cases hE; rfl), by rw [ht]; exact hz9, fun q h3 _ => by rw [ht]; exact hk9 q h3⟩) (fun z hz => absurd hz (by rw [hS9]; exact List.not_mem_nil)) (Nat.le_refl _) (Nat.le_refl _))) (fun v2 ev2 => ?_)
  have e := hv1.symm.trans hbad
  cases e
  cases ev2

def k_later (N : Nat) (g : SG) (a0 : Int32) (a1 : Int32) : Option ((Int32 × SG) ⊕ String) := (f_X4_later N a0 a1).map (rw1 g)
theorem u_later (l : Launch) (D : va_G) (cI cJ cO : ClassId) (ah qk : Nat) (z : AZ) (g : SG) (sz N : Nat) (a0 : Int32) (a1 : Int32) (R : (Int32 × SG) ⊕ String) (hl0 : l.stackTraces = false) (hk : k_later N g a0 a1 = some R) : vx_Met l yX4_later wsX4_later ({ frames := 7, cells := 2, slots := 12, locals := 102 }) (va_Pc [.ref qk, .int a0, .int a1] (tP D (ty3 cI cJ cO) (some ah) (DW cI cO qk z g) sz)) (UQ D cI cO qk (va_A (DW cI cO qk z g) sz) Value.int R) (XT R) 2 12 (va_A (DW cI cO qk z g) sz) := by
  obtain ⟨r, hf, rfl⟩ := Option.map_eq_some_iff.mp hk
  exact uc_Bi (m_X4_later l D cI cJ cO ah qk z.1 z.2.1 z.2.2.1 z.2.2.2.1 z.2.2.2.2.1 z.2.2.2.2.2 g.1 g.2.1 g.2.2.1 g.2.2.2.1 g.2.2.2.2.1 g.2.2.2.2.2.1 g.2.2.2.2.2.2.1 g.2.2.2.2.2.2.2.1 g.2.2.2.2.2.2.2.2.1 g.2.2.2.2.2.2.2.2.2 a0 a1 N r hl0 hf)
def k_weekday (N : Nat) (g : SG) (a0 : Int32) : Option ((Int32 × SG) ⊕ String) := (f_X4_weekday a0).map (rw1 g)
theorem u_weekday (l : Launch) (D : va_G) (cI cJ cO : ClassId) (ah qk : Nat) (z : AZ) (g : SG) (sz N : Nat) (a0 : Int32) (R : (Int32 × SG) ⊕ String) (hl0 : l.stackTraces = false) (hk : k_weekday N g a0 = some R) : vx_Met l yX4_weekday wsX4_weekday ({ frames := 7, cells := 1, slots := 6, locals := 102 }) (va_Pc [.ref qk, .int a0] (tP D (ty3 cI cJ cO) (some ah) (DW cI cO qk z g) sz)) (UQ D cI cO qk (va_A (DW cI cO qk z g) sz) Value.int R) (XT R) 1 6 (va_A (DW cI cO qk z g) sz) := by
  obtain ⟨r, hf, rfl⟩ := Option.map_eq_some_iff.mp hk
  exact uc_Bi (m_X4_weekday l D cI cJ cO ah qk z.1 z.2.1 z.2.2.1 z.2.2.2.1 z.2.2.2.2.1 z.2.2.2.2.2 g.1 g.2.1 g.2.2.1 g.2.2.2.1 g.2.2.2.2.1 g.2.2.2.2.2.1 g.2.2.2.2.2.2.1 g.2.2.2.2.2.2.2.1 g.2.2.2.2.2.2.2.2.1 g.2.2.2.2.2.2.2.2.2 a0 r hl0 hf)
def k_addHoliday (N : Nat) (g : SG) (a0 : Int32) : Option ((Int32 × SG) ⊕ String) := (f_X4_addHoliday N g.1 g.2.2.1 a0).map (fun r => rw2 r (fun u => u.1) (fun u => (u.2.1, g.2.1, u.2.2, g.2.2.2)))
theorem u_addHoliday (l : Launch) (D : va_G) (cI cJ cO : ClassId) (ah qk : Nat) (z : AZ) (g : SG) (sz N : Nat) (a0 : Int32) (R : (Int32 × SG) ⊕ String) (hl0 : l.stackTraces = false) (hk : k_addHoliday N g a0 = some R) : vx_Met l yX4_addHoliday wsX4_addHoliday ({ frames := 7, cells := 2, slots := 12, locals := 102 }) (va_Pc [.ref qk, .int a0] (tP D (ty3 cI cJ cO) (some ah) (DW cI cO qk z g) sz)) (UQ D cI cO qk (va_A (DW cI cO qk z g) sz) Value.int R) (XT R) 2 12 (va_A (DW cI cO qk z g) sz) := by
  obtain ⟨r, hf, rfl⟩ := Option.map_eq_some_iff.mp hk
  exact uc_TSi (fun u : (Int32 × (Nat → Int32) × (Nat → Int32)) => (u.2.1, g.2.1, u.2.2, g.2.2.2)) (fun _ => rfl) (fun _ => rfl) (m_X4_addHoliday l D cI cJ cO ah qk z.1 z.2.1 z.2.2.1 z.2.2.2.1 g.1 g.2.1 g.2.2.1 g.2.2.2.1 g.2.2.2.2.1 sz a0 N r hl0 hf)
def k_working (N : Nat) (g : SG) (a0 : Int32) : Option ((Int32 × SG) ⊕ String) := (f_X4_working N g.2.2.1 a0).map (rw1 g)
theorem u_working (l : Launch) (D : va_G) (cI cJ cO : ClassId) (ah qk : Nat) (z : AZ) (g : SG) (sz N : Nat) (a0 : Int32) (R : (Int32 × SG) ⊕ String) (hl0 : l.stackTraces = false) (hk : k_working N g a0 = some R) : vx_Met l yX4_working wsX4_working ({ frames := 7, cells := 2, slots := 12, locals := 102 }) (va_Pc [.ref qk, .int a0] (tP D (ty3 cI cJ cO) (some ah) (DW cI cO qk z g) sz)) (UQ D cI cO qk (va_A (DW cI cO qk z g) sz) Value.int R) (XT R) 2 12 (va_A (DW cI cO qk z g) sz) := by
  obtain ⟨r, hf, rfl⟩ := Option.map_eq_some_iff.mp hk
  exact uc_Si (m_X4_working l D cI cJ cO ah qk z.1 z.2.1 z.2.2.1 z.2.2.2.1 g.1 g.2.1 g.2.2.1 g.2.2.2.1 g.2.2.2.2.1 a0 N r hl0 hf)
def k_addBond (N : Nat) (g : SG) (a0 : Int32) (a1 : Int32) (a2 : Int32) (a3 : Int32) (a4 : Int32) : Option ((Int32 × SG) ⊕ String) := (f_X4_addBond N g.1 a0 a1 a2 a3 a4).map (fun r => rw2 r (fun u => u.1) (fun u => gAdd g u.2.1 u.2.2.1 u.2.2.2.1 u.2.2.2.2.1 u.2.2.2.2.2.1 u.2.2.2.2.2.2))
theorem u_addBond (l : Launch) (D : va_G) (cI cJ cO : ClassId) (ah qk : Nat) (z : AZ) (g : SG) (sz N : Nat) (a0 : Int32) (a1 : Int32) (a2 : Int32) (a3 : Int32) (a4 : Int32) (R : (Int32 × SG) ⊕ String) (hl0 : l.stackTraces = false) (hn : (g.1 4).toNatClampNeg = g.2.2.2.2.1) (hk : k_addBond N g a0 a1 a2 a3 a4 = some R) : vx_Met l yX4_addBond wsX4_addBond ({ frames := 8, cells := 8, slots := 168, locals := 124 }) (va_Pc [.ref qk, .int a0, .int a1, .int a2, .int a3, .int a4] (tP D (ty3 cI cJ cO) (some ah) (DW cI cO qk z g) sz)) (UQ D cI cO qk (va_A (DW cI cO qk z g) sz) Value.int R) (XT R) 8 168 (va_A (DW cI cO qk z g) sz) := by
  obtain ⟨r, hf, rfl⟩ := Option.map_eq_some_iff.mp hk
  exact uc_TA (fun u : (Int32 × (Nat → Int32) × (Nat → Int32) × (Nat → Int64) × Nat × (Nat → Int32) × (Nat → Int32)) => gAdd g u.2.1 u.2.2.1 u.2.2.2.1 u.2.2.2.2.1 u.2.2.2.2.2.1 u.2.2.2.2.2.2) (fun u y => by rw [hn]; exact add_perm _ _ _ _ _ _ _) (m_X4_addBond l D cI cJ cO ah qk z.1 z.2.1 z.2.2.1 z.2.2.2.1 g.1 g.2.1 g.2.2.1 g.2.2.2.1 g.2.2.2.2.1 sz a0 a1 a2 a3 a4 N r hl0 hf)
def k_setSink (N : Nat) (g : SG) (a0 : Int32) (a1 : Int32) (a2 : Int32) : Option ((Int32 × SG) ⊕ String) := (f_X4_setSink N g.2.2.2.2.1 g.2.2.2.2.2.1 g.2.2.2.2.2.2.2.2.1 g.2.2.2.2.2.2.2.2.2 a0 a1 a2).map (fun r => rw2 r (fun u => u.1) (fun u => (g.1, g.2.1, g.2.2.1, g.2.2.2.1, g.2.2.2.2.1, va_up g.2.2.2.2.2.1 a0.toNatClampNeg u.2, g.2.2.2.2.2.2)))
theorem u_setSink (l : Launch) (D : va_G) (cI cJ cO : ClassId) (ah qk : Nat) (z : AZ) (g : SG) (sz N : Nat) (a0 : Int32) (a1 : Int32) (a2 : Int32) (R : (Int32 × SG) ⊕ String) (hl0 : l.stackTraces = false) (hk : k_setSink N g a0 a1 a2 = some R) : vx_Met l yX4_setSink wsX4_setSink ({ frames := 7, cells := 3, slots := 18, locals := 104 }) (va_Pc [.ref qk, .int a0, .int a1, .int a2] (tP D (ty3 cI cJ cO) (some ah) (DW cI cO qk z g) sz)) (UQ D cI cO qk (va_A (DW cI cO qk z g) sz) Value.int R) (XT R) 3 18 (va_A (DW cI cO qk z g) sz) := by
  obtain ⟨r, hf, rfl⟩ := Option.map_eq_some_iff.mp hk
  by_cases hi : a0.toNatClampNeg < g.2.2.2.2.1
  · exact uc_TBi a0.toNatClampNeg (fun u : (Int32 × (Nat → Int32)) => (g.1, g.2.1, g.2.2.1, g.2.2.2.1, g.2.2.2.2.1, va_up g.2.2.2.2.2.1 a0.toNatClampNeg u.2, g.2.2.2.2.2.2)) hi (fun u => by simp only [DK, FM, fam, va_up_self]; rfl) (fun _ => rfl) (fun u j hj => by simp only [FM, fam, va_up_ne _ _ hj]) (m_X4_setSink l D cI cJ cO ah qk z.1 z.2.1 z.2.2.1 z.2.2.2.1 z.2.2.2.2.1 z.2.2.2.2.2 g.1 g.2.1 g.2.2.1 g.2.2.2.1 g.2.2.2.2.1 g.2.2.2.2.2.1 g.2.2.2.2.2.2.1 g.2.2.2.2.2.2.2.1 g.2.2.2.2.2.2.2.2.1 g.2.2.2.2.2.2.2.2.2 sz a0 a1 a2 N r hl0 hf)
  · have hbad := bn_bad hi
    refine uc_bad (E := "java/lang/IndexOutOfBoundsException") ?_ (b_X4_setSink l D cI cJ cO ah qk z.1 z.2.1 z.2.2.1 z.2.2.2.1 g.1 g.2.1 g.2.2.1 g.2.2.2.1 g.2.2.2.2.1 sz a0 a1 a2 hl0 _ hbad)
    unfold f_X4_setSink at hf
    rw [hbad] at hf
    cases hf
    rfl
def k_setCall (N : Nat) (g : SG) (a0 : Int32) (a1 : Int32) (a2 : Int32) : Option ((Int32 × SG) ⊕ String) := (f_X4_setCall N g.2.2.2.2.1 g.2.2.2.2.2.1 g.2.2.2.2.2.2.2.2.1 g.2.2.2.2.2.2.2.2.2 a0 a1 a2).map (fun r => rw2 r (fun u => u.1) (fun u => (g.1, g.2.1, g.2.2.1, g.2.2.2.1, g.2.2.2.2.1, va_up g.2.2.2.2.2.1 a0.toNatClampNeg u.2, g.2.2.2.2.2.2)))
theorem u_setCall (l : Launch) (D : va_G) (cI cJ cO : ClassId) (ah qk : Nat) (z : AZ) (g : SG) (sz N : Nat) (a0 : Int32) (a1 : Int32) (a2 : Int32) (R : (Int32 × SG) ⊕ String) (hl0 : l.stackTraces = false) (hk : k_setCall N g a0 a1 a2 = some R) : vx_Met l yX4_setCall wsX4_setCall ({ frames := 7, cells := 3, slots := 18, locals := 104 }) (va_Pc [.ref qk, .int a0, .int a1, .int a2] (tP D (ty3 cI cJ cO) (some ah) (DW cI cO qk z g) sz)) (UQ D cI cO qk (va_A (DW cI cO qk z g) sz) Value.int R) (XT R) 3 18 (va_A (DW cI cO qk z g) sz) := by
  obtain ⟨r, hf, rfl⟩ := Option.map_eq_some_iff.mp hk
  by_cases hi : a0.toNatClampNeg < g.2.2.2.2.1
  · exact uc_TBi a0.toNatClampNeg (fun u : (Int32 × (Nat → Int32)) => (g.1, g.2.1, g.2.2.1, g.2.2.2.1, g.2.2.2.2.1, va_up g.2.2.2.2.2.1 a0.toNatClampNeg u.2, g.2.2.2.2.2.2)) hi (fun u => by simp only [DK, FM, fam, va_up_self]; rfl) (fun _ => rfl) (fun u j hj => by simp only [FM, fam, va_up_ne _ _ hj]) (m_X4_setCall l D cI cJ cO ah qk z.1 z.2.1 z.2.2.1 z.2.2.2.1 z.2.2.2.2.1 z.2.2.2.2.2 g.1 g.2.1 g.2.2.1 g.2.2.2.1 g.2.2.2.2.1 g.2.2.2.2.2.1 g.2.2.2.2.2.2.1 g.2.2.2.2.2.2.2.1 g.2.2.2.2.2.2.2.2.1 g.2.2.2.2.2.2.2.2.2 sz a0 a1 a2 N r hl0 hf)
  · have hbad := bn_bad hi
    refine uc_bad (E := "java/lang/IndexOutOfBoundsException") ?_ (b_X4_setCall l D cI cJ cO ah qk z.1 z.2.1 z.2.2.1 z.2.2.2.1 g.1 g.2.1 g.2.2.1 g.2.2.2.1 g.2.2.2.2.1 sz a0 a1 a2 hl0 _ hbad)
    unfold f_X4_setCall at hf
    rw [hbad] at hf
    cases hf
    rfl
def k_setRate (N : Nat) (g : SG) (a0 : Int32) : Option ((Int32 × SG) ⊕ String) := (f_X4_setRate g.1 a0).map (fun r => rw2 r (fun u => u.1) (fun u => (u.2, g.2)))
theorem u_setRate (l : Launch) (D : va_G) (cI cJ cO : ClassId) (ah qk : Nat) (z : AZ) (g : SG) (sz N : Nat) (a0 : Int32) (R : (Int32 × SG) ⊕ String) (hl0 : l.stackTraces = false) (hk : k_setRate N g a0 = some R) : vx_Met l yX4_setRate wsX4_setRate ({ frames := 7, cells := 1, slots := 6, locals := 102 }) (va_Pc [.ref qk, .int a0] (tP D (ty3 cI cJ cO) (some ah) (DW cI cO qk z g) sz)) (UQ D cI cO qk (va_A (DW cI cO qk z g) sz) Value.int R) (XT R) 1 6 (va_A (DW cI cO qk z g) sz) := by
  obtain ⟨r, hf, rfl⟩ := Option.map_eq_some_iff.mp hk
  exact uc_TSi (fun u : (Int32 × (Nat → Int32)) => (u.2, g.2)) (fun _ => rfl) (fun _ => rfl) (m_X4_setRate l D cI cJ cO ah qk z.1 z.2.1 z.2.2.1 z.2.2.2.1 g.1 g.2.1 g.2.2.1 g.2.2.2.1 g.2.2.2.2.1 sz a0 r hl0 hf)
def k_bond (N : Nat) (g : SG) (a0 : Int32) (a1 : Int32) : Option ((Int32 × SG) ⊕ String) := (f_X4_bond g.2.2.2.2.1 g.2.2.2.2.2.1 g.2.2.2.2.2.2.1 g.2.2.2.2.2.2.2.2.1 a0 a1).map (rw1 g)
theorem u_bond (l : Launch) (D : va_G) (cI cJ cO : ClassId) (ah qk : Nat) (z : AZ) (g : SG) (sz N : Nat) (a0 : Int32) (a1 : Int32) (R : (Int32 × SG) ⊕ String) (hl0 : l.stackTraces = false) (hk : k_bond N g a0 a1 = some R) : vx_Met l yX4_bond wsX4_bond ({ frames := 7, cells := 2, slots := 12, locals := 104 }) (va_Pc [.ref qk, .int a0, .int a1] (tP D (ty3 cI cJ cO) (some ah) (DW cI cO qk z g) sz)) (UQ D cI cO qk (va_A (DW cI cO qk z g) sz) Value.int R) (XT R) 2 12 (va_A (DW cI cO qk z g) sz) := by
  obtain ⟨r, hf, rfl⟩ := Option.map_eq_some_iff.mp hk
  exact uc_Bi (m_X4_bond l D cI cJ cO ah qk z.1 z.2.1 z.2.2.1 z.2.2.2.1 z.2.2.2.2.1 z.2.2.2.2.2 g.1 g.2.1 g.2.2.1 g.2.2.2.1 g.2.2.2.2.1 g.2.2.2.2.2.1 g.2.2.2.2.2.2.1 g.2.2.2.2.2.2.2.1 g.2.2.2.2.2.2.2.2.1 g.2.2.2.2.2.2.2.2.2 a0 a1 r hl0 hf)
def k_coupon (N : Nat) (g : SG) (a0 : Int32) (a1 : Int32) (a2 : Int32) : Option ((Int32 × SG) ⊕ String) := (f_X4_coupon N g.2.2.1 g.2.2.2.2.1 g.2.2.2.2.2.2.1 g.2.2.2.2.2.2.2.1 g.2.2.2.2.2.2.2.2.1 g.2.2.2.2.2.2.2.2.2 a0 a1 a2).map (rw1 g)
theorem u_coupon (l : Launch) (D : va_G) (cI cJ cO : ClassId) (ah qk : Nat) (z : AZ) (g : SG) (sz N : Nat) (a0 : Int32) (a1 : Int32) (a2 : Int32) (R : (Int32 × SG) ⊕ String) (hl0 : l.stackTraces = false) (hk : k_coupon N g a0 a1 a2 = some R) : vx_Met l yX4_coupon wsX4_coupon ({ frames := 7, cells := 2, slots := 12, locals := 104 }) (va_Pc [.ref qk, .int a0, .int a1, .int a2] (tP D (ty3 cI cJ cO) (some ah) (DW cI cO qk z g) sz)) (UQ D cI cO qk (va_A (DW cI cO qk z g) sz) Value.int R) (XT R) 2 12 (va_A (DW cI cO qk z g) sz) := by
  obtain ⟨r, hf, rfl⟩ := Option.map_eq_some_iff.mp hk
  exact uc_Bi (m_X4_coupon l D cI cJ cO ah qk z.1 z.2.1 z.2.2.1 z.2.2.2.1 z.2.2.2.2.1 z.2.2.2.2.2 g.1 g.2.1 g.2.2.1 g.2.2.2.1 g.2.2.2.2.1 g.2.2.2.2.2.1 g.2.2.2.2.2.2.1 g.2.2.2.2.2.2.2.1 g.2.2.2.2.2.2.2.2.1 g.2.2.2.2.2.2.2.2.2 a0 a1 a2 N r hl0 hf)
def k_accrued (N : Nat) (g : SG) (a0 : Int32) (a1 : Int32) : Option ((Int32 × SG) ⊕ String) := (f_X4_accrued N g.2.2.2.2.1 g.2.2.2.2.2.1 g.2.2.2.2.2.2.1 g.2.2.2.2.2.2.2.2.1 g.2.2.2.2.2.2.2.2.2 a0 a1).map (rw1 g)
theorem u_accrued (l : Launch) (D : va_G) (cI cJ cO : ClassId) (ah qk : Nat) (z : AZ) (g : SG) (sz N : Nat) (a0 : Int32) (a1 : Int32) (R : (Int32 × SG) ⊕ String) (hl0 : l.stackTraces = false) (hk : k_accrued N g a0 a1 = some R) : vx_Met l yX4_accrued wsX4_accrued ({ frames := 7, cells := 2, slots := 12, locals := 114 }) (va_Pc [.ref qk, .int a0, .int a1] (tP D (ty3 cI cJ cO) (some ah) (DW cI cO qk z g) sz)) (UQ D cI cO qk (va_A (DW cI cO qk z g) sz) Value.int R) (XT R) 2 12 (va_A (DW cI cO qk z g) sz) := by
  obtain ⟨r, hf, rfl⟩ := Option.map_eq_some_iff.mp hk
  exact uc_Bi (m_X4_accrued l D cI cJ cO ah qk z.1 z.2.1 z.2.2.1 z.2.2.2.1 z.2.2.2.2.1 z.2.2.2.2.2 g.1 g.2.1 g.2.2.1 g.2.2.2.1 g.2.2.2.2.1 g.2.2.2.2.2.1 g.2.2.2.2.2.2.1 g.2.2.2.2.2.2.2.1 g.2.2.2.2.2.2.2.2.1 g.2.2.2.2.2.2.2.2.2 a0 a1 N r hl0 hf)
def k_worth (N : Nat) (g : SG) (a0 : Int32) (a1 : Int32) : Option ((Int32 × SG) ⊕ String) := (f_X4_worth N g.1 g.2.2.2.2.1 g.2.2.2.2.2.1 g.2.2.2.2.2.2.1 g.2.2.2.2.2.2.2.1 g.2.2.2.2.2.2.2.2.1 g.2.2.2.2.2.2.2.2.2 a0 a1).map (rw1 g)
theorem u_worth (l : Launch) (D : va_G) (cI cJ cO : ClassId) (ah qk : Nat) (z : AZ) (g : SG) (sz N : Nat) (a0 : Int32) (a1 : Int32) (R : (Int32 × SG) ⊕ String) (hl0 : l.stackTraces = false) (hk : k_worth N g a0 a1 = some R) : vx_Met l yX4_worth wsX4_worth ({ frames := 7, cells := 2, slots := 12, locals := 104 }) (va_Pc [.ref qk, .int a0, .int a1] (tP D (ty3 cI cJ cO) (some ah) (DW cI cO qk z g) sz)) (UQ D cI cO qk (va_A (DW cI cO qk z g) sz) Value.int R) (XT R) 2 12 (va_A (DW cI cO qk z g) sz) := by
  obtain ⟨r, hf, rfl⟩ := Option.map_eq_some_iff.mp hk
  exact uc_Bi (m_X4_worth l D cI cJ cO ah qk z.1 z.2.1 z.2.2.1 z.2.2.2.1 z.2.2.2.2.1 z.2.2.2.2.2 g.1 g.2.1 g.2.2.1 g.2.2.2.1 g.2.2.2.2.1 g.2.2.2.2.2.1 g.2.2.2.2.2.2.1 g.2.2.2.2.2.2.2.1 g.2.2.2.2.2.2.2.2.1 g.2.2.2.2.2.2.2.2.2 a0 a1 N r hl0 hf)
def k_yields (N : Nat) (g : SG) (a0 : Int32) (a1 : Int32) : Option ((Int32 × SG) ⊕ String) := (f_X4_yields N g.1 g.2.2.2.2.1 g.2.2.2.2.2.1 g.2.2.2.2.2.2.1 g.2.2.2.2.2.2.2.1 g.2.2.2.2.2.2.2.2.1 g.2.2.2.2.2.2.2.2.2 a0 a1).map (rw1 g)
theorem u_yields (l : Launch) (D : va_G) (cI cJ cO : ClassId) (ah qk : Nat) (z : AZ) (g : SG) (sz N : Nat) (a0 : Int32) (a1 : Int32) (R : (Int32 × SG) ⊕ String) (hl0 : l.stackTraces = false) (hk : k_yields N g a0 a1 = some R) : vx_Met l yX4_yields wsX4_yields ({ frames := 7, cells := 2, slots := 12, locals := 140 }) (va_Pc [.ref qk, .int a0, .int a1] (tP D (ty3 cI cJ cO) (some ah) (DW cI cO qk z g) sz)) (UQ D cI cO qk (va_A (DW cI cO qk z g) sz) Value.int R) (XT R) 2 12 (va_A (DW cI cO qk z g) sz) := by
  obtain ⟨r, hf, rfl⟩ := Option.map_eq_some_iff.mp hk
  exact uc_Bi (m_X4_yields l D cI cJ cO ah qk z.1 z.2.1 z.2.2.1 z.2.2.2.1 z.2.2.2.2.1 z.2.2.2.2.2 g.1 g.2.1 g.2.2.1 g.2.2.2.1 g.2.2.2.2.1 g.2.2.2.2.2.1 g.2.2.2.2.2.2.1 g.2.2.2.2.2.2.2.1 g.2.2.2.2.2.2.2.2.1 g.2.2.2.2.2.2.2.2.2 a0 a1 N r hl0 hf)
def k_moves (N : Nat) (g : SG) (a0 : Int32) (a1 : Int32) : Option ((Int32 × SG) ⊕ String) := (f_X4_moves N g.1 g.2.2.2.2.1 g.2.2.2.2.2.1 g.2.2.2.2.2.2.1 g.2.2.2.2.2.2.2.1 g.2.2.2.2.2.2.2.2.1 g.2.2.2.2.2.2.2.2.2 a0 a1).map (rw1 g)
theorem u_moves (l : Launch) (D : va_G) (cI cJ cO : ClassId) (ah qk : Nat) (z : AZ) (g : SG) (sz N : Nat) (a0 : Int32) (a1 : Int32) (R : (Int32 × SG) ⊕ String) (hl0 : l.stackTraces = false) (hk : k_moves N g a0 a1 = some R) : vx_Met l yX4_moves wsX4_moves ({ frames := 7, cells := 2, slots := 12, locals := 104 }) (va_Pc [.ref qk, .int a0, .int a1] (tP D (ty3 cI cJ cO) (some ah) (DW cI cO qk z g) sz)) (UQ D cI cO qk (va_A (DW cI cO qk z g) sz) Value.int R) (XT R) 2 12 (va_A (DW cI cO qk z g) sz) := by
  obtain ⟨r, hf, rfl⟩ := Option.map_eq_some_iff.mp hk
  exact uc_Bi (m_X4_moves l D cI cJ cO ah qk z.1 z.2.1 z.2.2.1 z.2.2.2.1 z.2.2.2.2.1 z.2.2.2.2.2 g.1 g.2.1 g.2.2.1 g.2.2.2.1 g.2.2.2.2.1 g.2.2.2.2.2.1 g.2.2.2.2.2.2.1 g.2.2.2.2.2.2.2.1 g.2.2.2.2.2.2.2.2.1 g.2.2.2.2.2.2.2.2.2 a0 a1 N r hl0 hf)
def k_callsAt (N : Nat) (g : SG) (a0 : Int32) : Option ((Int32 × SG) ⊕ String) := (f_X4_callsAt N g.2.2.2.2.1 g.2.2.2.2.2.1 g.2.2.2.2.2.2.1 g.2.2.2.2.2.2.2.1 g.2.2.2.2.2.2.2.2.1 g.2.2.2.2.2.2.2.2.2 a0).map (rw1 g)
theorem u_callsAt (l : Launch) (D : va_G) (cI cJ cO : ClassId) (ah qk : Nat) (z : AZ) (g : SG) (sz N : Nat) (a0 : Int32) (R : (Int32 × SG) ⊕ String) (hl0 : l.stackTraces = false) (hk : k_callsAt N g a0 = some R) : vx_Met l yX4_callsAt wsX4_callsAt ({ frames := 7, cells := 1, slots := 6, locals := 140 }) (va_Pc [.ref qk, .int a0] (tP D (ty3 cI cJ cO) (some ah) (DW cI cO qk z g) sz)) (UQ D cI cO qk (va_A (DW cI cO qk z g) sz) Value.int R) (XT R) 1 6 (va_A (DW cI cO qk z g) sz) := by
  obtain ⟨r, hf, rfl⟩ := Option.map_eq_some_iff.mp hk
  exact uc_Bi (m_X4_callsAt l D cI cJ cO ah qk z.1 z.2.1 z.2.2.1 z.2.2.2.1 z.2.2.2.2.1 z.2.2.2.2.2 g.1 g.2.1 g.2.2.1 g.2.2.2.1 g.2.2.2.2.1 g.2.2.2.2.2.1 g.2.2.2.2.2.2.1 g.2.2.2.2.2.2.2.1 g.2.2.2.2.2.2.2.2.1 g.2.2.2.2.2.2.2.2.2 a0 N r hl0 hf)
def k_buy (N : Nat) (g : SG) (a0 : Int32) (a1 : Int32) (a2 : Int32) : Option ((Int64 × SG) ⊕ String) := (f_X4_buy N g.1 g.2.1 g.2.2.1 g.2.2.2.2.1 g.2.2.2.2.2.1 g.2.2.2.2.2.2.1 g.2.2.2.2.2.2.2.2.1 g.2.2.2.2.2.2.2.2.2 a0 a1 a2).map (fun r => rw2 r (fun u => u.1) (fun u => (g.1, u.2.1, g.2.2.1, g.2.2.2.1, g.2.2.2.2.1, va_up g.2.2.2.2.2.1 a0.toNatClampNeg u.2.2, g.2.2.2.2.2.2)))
theorem u_buy (l : Launch) (D : va_G) (cI cJ cO : ClassId) (ah qk : Nat) (z : AZ) (g : SG) (sz N : Nat) (a0 : Int32) (a1 : Int32) (a2 : Int32) (R : (Int64 × SG) ⊕ String) (hl0 : l.stackTraces = false) (hk : k_buy N g a0 a1 a2 = some R) : vx_Met l yX4_buy wsX4_buy ({ frames := 7, cells := 6, slots := 36, locals := 115 }) (va_Pc [.ref qk, .int a0, .int a1, .int a2] (tP D (ty3 cI cJ cO) (some ah) (DW cI cO qk z g) sz)) (UQ D cI cO qk (va_A (DW cI cO qk z g) sz) Value.long R) (XT R) 6 36 (va_A (DW cI cO qk z g) sz) := by
  obtain ⟨r, hf, rfl⟩ := Option.map_eq_some_iff.mp hk
  by_cases hi : a0.toNatClampNeg < g.2.2.2.2.1
  · exact uc_TBl a0.toNatClampNeg (fun u : (Int64 × Int64 × (Nat → Int32)) => (g.1, u.2.1, g.2.2.1, g.2.2.2.1, g.2.2.2.2.1, va_up g.2.2.2.2.2.1 a0.toNatClampNeg u.2.2, g.2.2.2.2.2.2)) hi (fun u => by simp only [DK, FM, fam, va_up_self]; rfl) (fun _ => rfl) (fun u j hj => by simp only [FM, fam, va_up_ne _ _ hj]) (m_X4_buy l D cI cJ cO ah qk z.1 z.2.1 z.2.2.1 z.2.2.2.1 z.2.2.2.2.1 z.2.2.2.2.2 g.1 g.2.1 g.2.2.1 g.2.2.2.1 g.2.2.2.2.1 g.2.2.2.2.2.1 g.2.2.2.2.2.2.1 g.2.2.2.2.2.2.2.1 g.2.2.2.2.2.2.2.2.1 g.2.2.2.2.2.2.2.2.2 sz a0 a1 a2 N r hl0 hf)
  · have hbad := bn_bad hi
    refine uc_bad (E := "java/lang/IndexOutOfBoundsException") ?_ (b_X4_buy l D cI cJ cO ah qk z.1 z.2.1 z.2.2.1 z.2.2.2.1 g.1 g.2.1 g.2.2.1 g.2.2.2.1 g.2.2.2.2.1 sz a0 a1 a2 hl0 _ hbad)
    unfold f_X4_buy at hf
    rw [hbad] at hf
    cases hf
    rfl
def k_sell (N : Nat) (g : SG) (a0 : Int32) (a1 : Int32) (a2 : Int32) : Option ((Int64 × SG) ⊕ String) := (f_X4_sell N g.1 g.2.1 g.2.2.1 g.2.2.2.2.1 g.2.2.2.2.2.1 g.2.2.2.2.2.2.1 g.2.2.2.2.2.2.2.2.1 g.2.2.2.2.2.2.2.2.2 a0 a1 a2).map (fun r => rw2 r (fun u => u.1) (fun u => (g.1, u.2.1, g.2.2.1, g.2.2.2.1, g.2.2.2.2.1, va_up g.2.2.2.2.2.1 a0.toNatClampNeg u.2.2, g.2.2.2.2.2.2)))
theorem u_sell (l : Launch) (D : va_G) (cI cJ cO : ClassId) (ah qk : Nat) (z : AZ) (g : SG) (sz N : Nat) (a0 : Int32) (a1 : Int32) (a2 : Int32) (R : (Int64 × SG) ⊕ String) (hl0 : l.stackTraces = false) (hk : k_sell N g a0 a1 a2 = some R) : vx_Met l yX4_sell wsX4_sell ({ frames := 7, cells := 5, slots := 30, locals := 115 }) (va_Pc [.ref qk, .int a0, .int a1, .int a2] (tP D (ty3 cI cJ cO) (some ah) (DW cI cO qk z g) sz)) (UQ D cI cO qk (va_A (DW cI cO qk z g) sz) Value.long R) (XT R) 5 30 (va_A (DW cI cO qk z g) sz) := by
  obtain ⟨r, hf, rfl⟩ := Option.map_eq_some_iff.mp hk
  by_cases hi : a0.toNatClampNeg < g.2.2.2.2.1
  · exact uc_TBl a0.toNatClampNeg (fun u : (Int64 × Int64 × (Nat → Int32)) => (g.1, u.2.1, g.2.2.1, g.2.2.2.1, g.2.2.2.2.1, va_up g.2.2.2.2.2.1 a0.toNatClampNeg u.2.2, g.2.2.2.2.2.2)) hi (fun u => by simp only [DK, FM, fam, va_up_self]; rfl) (fun _ => rfl) (fun u j hj => by simp only [FM, fam, va_up_ne _ _ hj]) (m_X4_sell l D cI cJ cO ah qk z.1 z.2.1 z.2.2.1 z.2.2.2.1 z.2.2.2.2.1 z.2.2.2.2.2 g.1 g.2.1 g.2.2.1 g.2.2.2.1 g.2.2.2.2.1 g.2.2.2.2.2.1 g.2.2.2.2.2.2.1 g.2.2.2.2.2.2.2.1 g.2.2.2.2.2.2.2.2.1 g.2.2.2.2.2.2.2.2.2 sz a0 a1 a2 N r hl0 hf)
  · have hbad := bn_bad hi
    refine uc_bad (E := "java/lang/IndexOutOfBoundsException") ?_ (b_X4_sell l D cI cJ cO ah qk z.1 z.2.1 z.2.2.1 z.2.2.2.1 g.1 g.2.1 g.2.2.1 g.2.2.2.1 g.2.2.2.2.1 sz a0 a1 a2 hl0 _ hbad)
    unfold f_X4_sell at hf
    rw [hbad] at hf
    cases hf
    rfl
def k_pass (N : Nat) (g : SG) (a0 : Int32) : Option ((Int64 × SG) ⊕ String) := (f_X4_pass N g.1 g.2.1 g.2.2.1 g.2.2.2.1 g.2.2.2.2.1 g.2.2.2.2.2.1 g.2.2.2.2.2.2.1 g.2.2.2.2.2.2.2.1 g.2.2.2.2.2.2.2.2.1 g.2.2.2.2.2.2.2.2.2 a0).map (fun r => rw2 r (fun u => u.1) (fun u => (u.2.1, u.2.2.1, g.2.2.1, u.2.2.2.1, g.2.2.2.2.1, u.2.2.2.2, g.2.2.2.2.2.2)))
theorem u_pass (l : Launch) (D : va_G) (cI cJ cO : ClassId) (ah qk : Nat) (z : AZ) (g : SG) (sz N : Nat) (a0 : Int32) (R : (Int64 × SG) ⊕ String) (hl0 : l.stackTraces = false) (hk : k_pass N g a0 = some R) : vx_Met l yX4_pass wsX4_pass ({ frames := 7, cells := 1, slots := 6, locals := 163 }) (va_Pc [.ref qk, .int a0] (tP D (ty3 cI cJ cO) (some ah) (DW cI cO qk z g) sz)) (UQ D cI cO qk (va_A (DW cI cO qk z g) sz) Value.long R) (XT R) 1 6 (va_A (DW cI cO qk z g) sz) := by
  obtain ⟨r, hf, rfl⟩ := Option.map_eq_some_iff.mp hk
  exact uc_TLl (fun u : (Int64 × (Nat → Int32) × Int64 × (Nat → Int64) × (Nat → Nat → Int32)) => (u.2.1, u.2.2.1, g.2.2.1, u.2.2.2.1, g.2.2.2.2.1, u.2.2.2.2, g.2.2.2.2.2.2)) (fun _ => rfl) (m_X4_pass l D cI cJ cO ah qk z.1 z.2.1 z.2.2.1 z.2.2.2.1 z.2.2.2.2.1 z.2.2.2.2.2 g.1 g.2.1 g.2.2.1 g.2.2.2.1 g.2.2.2.2.1 g.2.2.2.2.2.1 g.2.2.2.2.2.2.1 g.2.2.2.2.2.2.2.1 g.2.2.2.2.2.2.2.2.1 g.2.2.2.2.2.2.2.2.2 sz a0 N r hl0 hf)
def k_count (N : Nat) (g : SG) (a0 : Int32) : Option ((Int64 × SG) ⊕ String) := (f_X4_count N g.1 g.2.1 g.2.2.2.1 g.2.2.2.2.1 g.2.2.2.2.2.1 g.2.2.2.2.2.2.1 g.2.2.2.2.2.2.2.1 g.2.2.2.2.2.2.2.2.1 g.2.2.2.2.2.2.2.2.2 a0).map (rw1 g)
theorem u_count (l : Launch) (D : va_G) (cI cJ cO : ClassId) (ah qk : Nat) (z : AZ) (g : SG) (sz N : Nat) (a0 : Int32) (R : (Int64 × SG) ⊕ String) (hl0 : l.stackTraces = false) (hk : k_count N g a0 = some R) : vx_Met l yX4_count wsX4_count ({ frames := 6, cells := 1, slots := 6, locals := 138 }) (va_Pc [.ref qk, .int a0] (tP D (ty3 cI cJ cO) (some ah) (DW cI cO qk z g) sz)) (UQ D cI cO qk (va_A (DW cI cO qk z g) sz) Value.long R) (XT R) 1 6 (va_A (DW cI cO qk z g) sz) := by
  obtain ⟨r, hf, rfl⟩ := Option.map_eq_some_iff.mp hk
  exact uc_Bl (m_X4_count l D cI cJ cO ah qk z.1 z.2.1 z.2.2.1 z.2.2.2.1 z.2.2.2.2.1 z.2.2.2.2.2 g.1 g.2.1 g.2.2.1 g.2.2.2.1 g.2.2.2.2.1 g.2.2.2.2.2.1 g.2.2.2.2.2.2.1 g.2.2.2.2.2.2.2.1 g.2.2.2.2.2.2.2.2.1 g.2.2.2.2.2.2.2.2.2 a0 N r hl0 hf)
def k_paysIn (N : Nat) (g : SG) (a0 : Int32) : Option ((Int64 × SG) ⊕ String) := (f_X4_paysIn N g.1 g.2.2.2.2.1 g.2.2.2.2.2.1 g.2.2.2.2.2.2.1 g.2.2.2.2.2.2.2.1 g.2.2.2.2.2.2.2.2.1 g.2.2.2.2.2.2.2.2.2 a0).map (rw1 g)
theorem u_paysIn (l : Launch) (D : va_G) (cI cJ cO : ClassId) (ah qk : Nat) (z : AZ) (g : SG) (sz N : Nat) (a0 : Int32) (R : (Int64 × SG) ⊕ String) (hl0 : l.stackTraces = false) (hk : k_paysIn N g a0 = some R) : vx_Met l yX4_paysIn wsX4_paysIn ({ frames := 7, cells := 1, slots := 6, locals := 102 }) (va_Pc [.ref qk, .int a0] (tP D (ty3 cI cJ cO) (some ah) (DW cI cO qk z g) sz)) (UQ D cI cO qk (va_A (DW cI cO qk z g) sz) Value.long R) (XT R) 1 6 (va_A (DW cI cO qk z g) sz) := by
  obtain ⟨r, hf, rfl⟩ := Option.map_eq_some_iff.mp hk
  exact uc_Bl (m_X4_paysIn l D cI cJ cO ah qk z.1 z.2.1 z.2.2.1 z.2.2.2.1 z.2.2.2.2.1 z.2.2.2.2.2 g.1 g.2.1 g.2.2.1 g.2.2.2.1 g.2.2.2.2.1 g.2.2.2.2.2.1 g.2.2.2.2.2.2.1 g.2.2.2.2.2.2.2.1 g.2.2.2.2.2.2.2.2.1 g.2.2.2.2.2.2.2.2.2 a0 N r hl0 hf)
def k_ladder (N : Nat) (g : SG) (a0 : Int32) (a1 : Int32) : Option ((Int32 × SG) ⊕ String) := (f_X4_ladder N g.1 g.2.1 g.2.2.2.2.1 g.2.2.2.2.2.1 g.2.2.2.2.2.2.1 g.2.2.2.2.2.2.2.1 g.2.2.2.2.2.2.2.2.1 g.2.2.2.2.2.2.2.2.2 a0 a1).map (rw1 g)
theorem u_ladder (l : Launch) (D : va_G) (cI cJ cO : ClassId) (ah qk : Nat) (z : AZ) (g : SG) (sz N : Nat) (a0 : Int32) (a1 : Int32) (R : (Int32 × SG) ⊕ String) (hl0 : l.stackTraces = false) (hk : k_ladder N g a0 a1 = some R) : vx_Met l yX4_ladder wsX4_ladder ({ frames := 7, cells := 3, slots := 18, locals := 120 }) (va_Pc [.ref qk, .int a0, .int a1] (tP D (ty3 cI cJ cO) (some ah) (DW cI cO qk z g) sz)) (UQ D cI cO qk (va_A (DW cI cO qk z g) sz) Value.int R) (XT R) 3 18 (va_A (DW cI cO qk z g) sz) := by
  obtain ⟨r, hf, rfl⟩ := Option.map_eq_some_iff.mp hk
  exact uc_Bi (m_X4_ladder l D cI cJ cO ah qk z.1 z.2.1 z.2.2.1 z.2.2.2.1 z.2.2.2.2.1 z.2.2.2.2.2 g.1 g.2.1 g.2.2.1 g.2.2.2.1 g.2.2.2.2.1 g.2.2.2.2.2.1 g.2.2.2.2.2.2.1 g.2.2.2.2.2.2.2.1 g.2.2.2.2.2.2.2.2.1 g.2.2.2.2.2.2.2.2.2 a0 a1 N r hl0 hf)
def k_best (N : Nat) (g : SG) (a0 : Int32) : Option ((Int32 × SG) ⊕ String) := (f_X4_best N g.1 g.2.2.2.2.1 g.2.2.2.2.2.1 g.2.2.2.2.2.2.1 g.2.2.2.2.2.2.2.1 g.2.2.2.2.2.2.2.2.1 g.2.2.2.2.2.2.2.2.2 a0).map (rw1 g)
theorem u_best (l : Launch) (D : va_G) (cI cJ cO : ClassId) (ah qk : Nat) (z : AZ) (g : SG) (sz N : Nat) (a0 : Int32) (R : (Int32 × SG) ⊕ String) (hl0 : l.stackTraces = false) (hk : k_best N g a0 = some R) : vx_Met l yX4_best wsX4_best ({ frames := 7, cells := 1, slots := 6, locals := 140 }) (va_Pc [.ref qk, .int a0] (tP D (ty3 cI cJ cO) (some ah) (DW cI cO qk z g) sz)) (UQ D cI cO qk (va_A (DW cI cO qk z g) sz) Value.int R) (XT R) 1 6 (va_A (DW cI cO qk z g) sz) := by
  obtain ⟨r, hf, rfl⟩ := Option.map_eq_some_iff.mp hk
  exact uc_Bi (m_X4_best l D cI cJ cO ah qk z.1 z.2.1 z.2.2.1 z.2.2.2.1 z.2.2.2.2.1 z.2.2.2.2.2 g.1 g.2.1 g.2.2.1 g.2.2.2.1 g.2.2.2.2.1 g.2.2.2.2.2.1 g.2.2.2.2.2.2.1 g.2.2.2.2.2.2.2.1 g.2.2.2.2.2.2.2.2.1 g.2.2.2.2.2.2.2.2.2 a0 N r hl0 hf)
