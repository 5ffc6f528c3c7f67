/-! the law's helpers (printed by gen4.py) -/
theorem in01 : vp_in (0 : Int32) 1 := by unfold vp_in; decide
set_option maxHeartbeats 4000000 in
set_option maxRecDepth 100000 in
theorem h_later (l : Launch) (D : va_G) (cI cJ cO : ClassId) (ah qk qo : Nat) (f : Nat → Int64) (z : AZ) (g : SG) (sz N : Nat) (a0 : Int32) (a1 : Int32) (R : (Int32 × SG) ⊕ String) (hl0 : l.stackTraces = false) (hk : k_later N g a0 a1 = some R) (hE0 : ∀ E, R = .inr E → E ∈ ["java/lang/IllegalArgumentException"]) : Met l yL_later wsL_later ({ frames := 8, cells := 2, slots := 12, locals := 125 }) (va_Pc [.ref qk, .int a0, .int a1, .ref qo] (hP0 D (ty3 cI cJ cO) (some ah) (eU cJ qo f :: DW cI cO qk z g) sz)) (HQ D cI cJ cO qk qo (va_A (eU cJ qo f :: DW cI cO qk z g) sz) ["java/lang/IllegalArgumentException"] Int32.toInt64 g R) 2 12 (va_A (eU cJ qo f :: DW cI cO qk z g) sz) := by
  refine met_of_vx (vx_ofWH (hh := [(0, 10, 13, 13)]) (cc := cL_later) (maxL := 5) (ret := (some .int)) (by decide) rfl ?_)
  intro p e s m args below meth c s₁ Bd hml hv
  obtain ⟨rfl, ⟨⟨hsz, hZ, hP, hK, hD0⟩, hT⟩, hn1, hn2, hn3⟩ := hv
  have hx := Bd.exec
  have hb := Bd.bytes
  have hr := Bd.returns
  have hts := atoms_spec (ws := wsL_later) Bd.pre
  have hown : s.vm.findClass RL = some m.cls := findClass_of_methodNamed Bd.named
  have hte : c.exceptionTable.toList = [⟨0, 10, 13, 13⟩] := vx_table (x := yL_later) Bd (hts (.codeWith yL_later cL_later 5 (some .int) [(0, 10, 13, 13)]) List.mem_cons_self)
  subst hsz
  have hD := hD0.self (sz := s.heap.size)
  generalize hAe : va_A (eU cJ qo f :: DW cI cO qk z g) s.heap.size = A at hD hZ hT ⊢
  have hA : ∀ q : Nat, s.heap.size ≤ q → A q := fun q h => by rw [← hAe]; exact Or.inr h
  have hS : va_S A s.heap s.heap [] := va_S.rf
  have hl := lv_entry ([.ref qk, .int a0, .int a1, .ref qo]) (n := 5) (Nat.le_of_ble_eq_true rfl)
  rw [lg_entry_eq]
  generalize (lg_sl ([.ref qk, .int a0, .int a1, .ref qo]) ++ List.replicate (5 - (lg_sl ([.ref qk, .int a0, .int a1, .ref qo])).length) Slot.unset).toArray = ls at hl ⊢
  have hl : lv_has ls 5 [(0, .ref qk), (1, .int a0), (2, .int a1), (3, .ref qo)] := hl
  refine lv_aload_n hx hb dL_later_0 rfl (lv_at hl 3 rfl) ?_
  refine lv_iconst (v := 0) hx hb dL_later_1 (by decide) ?_
  refine lv_aload_n hx hb dL_later_2 rfl (lv_at hl 0 rfl) ?_
  refine lv_iload_n hx hb dL_later_3 rfl (lv_at hl 1 rfl) ?_
  refine lv_iload_n hx hb dL_later_4 rfl (lv_at hl 2 rfl) ?_
  have hPc := wp_tail hP
  have hDc := wd_tail hD
  have hFc : ∀ q, va_A (DW cI cO qk z g) s.heap.size q → A q := va_A_of hDc hS hA
  refine xU (vx_runV (As := [.int a0, .int a1]) (rest := [.int 0, .ref qo]) ⟨hx, hb, hml, hown, hts⟩ (u_later l D cI cJ cO ah qk z g s.heap.size N a0 a1 R hl0 hk) (cwV 2 hts gL_later_X4_later rfl rfl rfl (by decide +kernel) ⟨(Nat.le_of_ble_eq_true rfl), (Nat.le_of_ble_eq_true rfl)⟩) ⟨tp_blind, va_recv hK hP (ci := 3) (q0 := 1) rfl rfl, fun U hU hW => ⟨rfl, mp_at hZ hS hPc hK hDc hFc hU hW (Or.inr rfl), by rw [hU]; exact px_at hT hS hW hFc⟩⟩ rfl rfl hl.1 rfl (lv_room (Nat.le_of_ble_eq_true rfl)) dL_later_5 ⟨(Nat.le_of_ble_eq_true rfl), (Nat.le_of_ble_eq_true rfl)⟩) hS hFc (fun E ce q9 H1 locs1 hE hz9 hk9 hS9 hc9 hv9 hl9 => ?_) (fun u z1 H1 locs1 hu hP1 hD1 hz1 hk1 hS1 => ?_)
  · have hP9 : va_P D vwCl (eU cJ qo f :: DW cI cO qk z g) H1 := hP.kept (fun k q hq => hk9 q.1 (hP k q hq).lt)
    have hm := hE0 E hE
    simp only [List.mem_cons, List.not_mem_nil, or_false] at hm
    subst hm
    refine vx_catch hown [] ⟨0, 10, 13, 13⟩ [] (by rw [hte]; rfl) (fun z hz => nomatch hz) (by decide) (by decide) (hts (.classLink RL 13 "java/lang/IllegalArgumentException") (by decide +kernel)) (va_Nw.use rfl (hT.2.2.2 (.castable "java/lang/IllegalArgumentException" "java/lang/IllegalArgumentException") (by decide))) hc9 hv9 hl9 ?_
    refine lv_astore (lv' := [(4, .ref q9), (0, .ref qk), (1, .int a0), (2, .int a1), (3, .ref qo)]) hx hb dL_later_13 hl (by decide) rfl (fun ls hl => ?_)
    refine lv_iconst (v := 1) hx hb dL_later_15 (by decide) ?_
    refine vx_ret ?_
    refine W.widen (k := 2) (n := 12) (Nat.le_of_ble_eq_true rfl) (Nat.le_of_ble_eq_true rfl) ?_
    have e9 : kR ["java/lang/IllegalArgumentException"] R = 1 := by rw [hE]; decide
    exact W.iret hx hb hr (fun t ht hW => ⟨z, f, by rw [e9], fun u h => (by rw [hE] at h; cases h), by rw [hE, ht]; exact hP9, by rw [hE]; exact hD, hS9.F ht⟩) hS9.2.2 dL_later_16
  · obtain ⟨hP, hD⟩ := wjc hP hD hA hP1 hD1 hk1
    refine lv_i2l hx hb dL_later_8 rfl ?_
    refine va_last hx hb hK hP hD hS1 0 1 rfl rfl in01 dL_later_9 (fun H locs hP hD hS => ?_)
    refine lv_goto (tgt := 17) hx hb dL_later_10 (by decide) ?_
    refine lv_iconst (v := 0) hx hb dL_later_17 (by decide) ?_
    refine vx_ret ?_
    refine W.widen (k := 2) (n := 12) (Nat.le_of_ble_eq_true rfl) (Nat.le_of_ble_eq_true rfl) ?_
    exact W.iret hx hb hr (fun t ht hW => ⟨z1, vp_updL f (0 : Int32).toNatClampNeg (u.1.toInt64), by rw [hu]; rfl, fun u1 h => (by rw [hu] at h; cases h; rfl), by rw [hu, ht]; exact hP, by rw [hu]; exact hD, hS.F ht⟩) hS.2.2 dL_later_18
set_option maxHeartbeats 4000000 in
set_option maxRecDepth 100000 in
theorem h_weekday (l : Launch) (D : va_G) (cI cJ cO : ClassId) (ah qk qo : Nat) (f : Nat → Int64) (z : AZ) (g : SG) (sz N : Nat) (a0 : Int32) (R : (Int32 × SG) ⊕ String) (hl0 : l.stackTraces = false) (hk : k_weekday N g a0 = some R) (hE0 : ∀ E, R = .inr E → E ∈ ["java/lang/IllegalArgumentException"]) : Met l yL_weekday wsL_weekday ({ frames := 8, cells := 1, slots := 6, locals := 123 }) (va_Pc [.ref qk, .int a0, .ref qo] (hP0 D (ty3 cI cJ cO) (some ah) (eU cJ qo f :: DW cI cO qk z g) sz)) (HQ D cI cJ cO qk qo (va_A (eU cJ qo f :: DW cI cO qk z g) sz) ["java/lang/IllegalArgumentException"] Int32.toInt64 g R) 1 6 (va_A (eU cJ qo f :: DW cI cO qk z g) sz) := by
  refine met_of_vx (vx_ofWH (hh := [(0, 9, 12, 13)]) (cc := cL_weekday) (maxL := 4) (ret := (some .int)) (by decide) rfl ?_)
  intro p e s m args below meth c s₁ Bd hml hv
  obtain ⟨rfl, ⟨⟨hsz, hZ, hP, hK, hD0⟩, hT⟩, hn1, hn2, hn3⟩ := hv
  have hx := Bd.exec
  have hb := Bd.bytes
  have hr := Bd.returns
  have hts := atoms_spec (ws := wsL_weekday) Bd.pre
  have hown : s.vm.findClass RL = some m.cls := findClass_of_methodNamed Bd.named
  have hte : c.exceptionTable.toList = [⟨0, 9, 12, 13⟩] := vx_table (x := yL_weekday) Bd (hts (.codeWith yL_weekday cL_weekday 4 (some .int) [(0, 9, 12, 13)]) List.mem_cons_self)
  subst hsz
  have hD := hD0.self (sz := s.heap.size)
  generalize hAe : va_A (eU cJ qo f :: DW cI cO qk z g) s.heap.size = A at hD hZ hT ⊢
  have hA : ∀ q : Nat, s.heap.size ≤ q → A q := fun q h => by rw [← hAe]; exact Or.inr h
  have hS : va_S A s.heap s.heap [] := va_S.rf
  have hl := lv_entry ([.ref qk, .int a0, .ref qo]) (n := 4) (Nat.le_of_ble_eq_true rfl)
  rw [lg_entry_eq]
  generalize (lg_sl ([.ref qk, .int a0, .ref qo]) ++ List.replicate (4 - (lg_sl ([.ref qk, .int a0, .ref qo])).length) Slot.unset).toArray = ls at hl ⊢
  have hl : lv_has ls 4 [(0, .ref qk), (1, .int a0), (2, .ref qo)] := hl
  refine lv_aload_n hx hb dL_weekday_0 rfl (lv_at hl 2 rfl) ?_
  refine lv_iconst (v := 0) hx hb dL_weekday_1 (by decide) ?_
  refine lv_aload_n hx hb dL_weekday_2 rfl (lv_at hl 0 rfl) ?_
  refine lv_iload_n hx hb dL_weekday_3 rfl (lv_at hl 1 rfl) ?_
  have hPc := wp_tail hP
  have hDc := wd_tail hD
  have hFc : ∀ q, va_A (DW cI cO qk z g) s.heap.size q → A q := va_A_of hDc hS hA
  refine xU (vx_runV (As := [.int a0]) (rest := [.int 0, .ref qo]) ⟨hx, hb, hml, hown, hts⟩ (u_weekday l D cI cJ cO ah qk z g s.heap.size N a0 R hl0 hk) (cwV 1 hts gL_weekday_X4_weekday rfl rfl rfl (by decide +kernel) ⟨(Nat.le_of_ble_eq_true rfl), (Nat.le_of_ble_eq_true rfl)⟩) ⟨tp_blind, va_recv hK hP (ci := 3) (q0 := 1) rfl rfl, fun U hU hW => ⟨rfl, mp_at hZ hS hPc hK hDc hFc hU hW (Or.inr rfl), by rw [hU]; exact px_at hT hS hW hFc⟩⟩ rfl rfl hl.1 rfl (lv_room (Nat.le_of_ble_eq_true rfl)) dL_weekday_4 ⟨(Nat.le_of_ble_eq_true rfl), (Nat.le_of_ble_eq_true rfl)⟩) hS hFc (fun E ce q9 H1 locs1 hE hz9 hk9 hS9 hc9 hv9 hl9 => ?_) (fun u z1 H1 locs1 hu hP1 hD1 hz1 hk1 hS1 => ?_)
  · have hP9 : va_P D vwCl (eU cJ qo f :: DW cI cO qk z g) H1 := hP.kept (fun k q hq => hk9 q.1 (hP k q hq).lt)
    have hm := hE0 E hE
    simp only [List.mem_cons, List.not_mem_nil, or_false] at hm
    subst hm
    refine vx_catch hown [] ⟨0, 9, 12, 13⟩ [] (by rw [hte]; rfl) (fun z hz => nomatch hz) (by decide) (by decide) (hts (.classLink RL 13 "java/lang/IllegalArgumentException") (by decide +kernel)) (va_Nw.use rfl (hT.2.2.2 (.castable "java/lang/IllegalArgumentException" "java/lang/IllegalArgumentException") (by decide))) hc9 hv9 hl9 ?_
    refine lv_astore_n (lv' := [(3, .ref q9), (0, .ref qk), (1, .int a0), (2, .ref qo)]) hx hb dL_weekday_12 rfl hl (by decide) rfl (fun ls hl => ?_)
    refine lv_iconst (v := 1) hx hb dL_weekday_13 (by decide) ?_
    refine vx_ret ?_
    refine W.widen (k := 1) (n := 6) (Nat.le_of_ble_eq_true rfl) (Nat.le_of_ble_eq_true rfl) ?_
    have e9 : kR ["java/lang/IllegalArgumentException"] R = 1 := by rw [hE]; decide
    exact W.iret hx hb hr (fun t ht hW => ⟨z, f, by rw [e9], fun u h => (by rw [hE] at h; cases h), by rw [hE, ht]; exact hP9, by rw [hE]; exact hD, hS9.F ht⟩) hS9.2.2 dL_weekday_14
  · obtain ⟨hP, hD⟩ := wjc hP hD hA hP1 hD1 hk1
    refine lv_i2l hx hb dL_weekday_7 rfl ?_
    refine va_last hx hb hK hP hD hS1 0 1 rfl rfl in01 dL_weekday_8 (fun H locs hP hD hS => ?_)
    refine lv_goto (tgt := 15) hx hb dL_weekday_9 (by decide) ?_
    refine lv_iconst (v := 0) hx hb dL_weekday_15 (by decide) ?_
    refine vx_ret ?_
    refine W.widen (k := 1) (n := 6) (Nat.le_of_ble_eq_true rfl) (Nat.le_of_ble_eq_true rfl) ?_
    exact W.iret hx hb hr (fun t ht hW => ⟨z1, vp_updL f (0 : Int32).toNatClampNeg (u.1.toInt64), by rw [hu]; rfl, fun u1 h => (by rw [hu] at h; cases h; rfl), by rw [hu, ht]; exact hP, by rw [hu]; exact hD, hS.F ht⟩) hS.2.2 dL_weekday_16
set_option maxHeartbeats 4000000 in
set_option maxRecDepth 100000 in
theorem h_addHoliday (l : Launch) (D : va_G) (cI cJ cO : ClassId) (ah qk qo : Nat) (f : Nat → Int64) (z : AZ) (g : SG) (sz N : Nat) (a0 : Int32) (R : (Int32 × SG) ⊕ String) (hl0 : l.stackTraces = false) (hk : k_addHoliday N g a0 = some R) (hE0 : ∀ E, R = .inr E → E ∈ ["java/lang/IllegalArgumentException", "java/lang/IllegalStateException"]) : Met l yL_addHoliday wsL_addHoliday ({ frames := 8, cells := 2, slots := 12, locals := 123 }) (va_Pc [.ref qk, .int a0, .ref qo] (hP0 D (ty3 cI cJ cO) (some ah) (eU cJ qo f :: DW cI cO qk z g) sz)) (HQ D cI cJ cO qk qo (va_A (eU cJ qo f :: DW cI cO qk z g) sz) ["java/lang/IllegalArgumentException", "java/lang/IllegalStateException"] Int32.toInt64 g R) 2 12 (va_A (eU cJ qo f :: DW cI cO qk z g) sz) := by
  refine met_of_vx (vx_ofWH (hh := [(0, 9, 12, 13), (0, 9, 15, 22)]) (cc := cL_addHoliday) (maxL := 4) (ret := (some .int)) (by decide) rfl ?_)
  intro p e s m args below meth c s₁ Bd hml hv
  obtain ⟨rfl, ⟨⟨hsz, hZ, hP, hK, hD0⟩, hT⟩, hn1, hn2, hn3⟩ := hv
  have hx := Bd.exec
  have hb := Bd.bytes
  have hr := Bd.returns
  have hts := atoms_spec (ws := wsL_addHoliday) Bd.pre
  have hown : s.vm.findClass RL = some m.cls := findClass_of_methodNamed Bd.named
  have hte : c.exceptionTable.toList = [⟨0, 9, 12, 13⟩, ⟨0, 9, 15, 22⟩] := vx_table (x := yL_addHoliday) Bd (hts (.codeWith yL_addHoliday cL_addHoliday 4 (some .int) [(0, 9, 12, 13), (0, 9, 15, 22)]) List.mem_cons_self)
  subst hsz
  have hD := hD0.self (sz := s.heap.size)
  generalize hAe : va_A (eU cJ qo f :: DW cI cO qk z g) s.heap.size = A at hD hZ hT ⊢
  have hA : ∀ q : Nat, s.heap.size ≤ q → A q := fun q h => by rw [← hAe]; exact Or.inr h
  have hS : va_S A s.heap s.heap [] := va_S.rf
  have hl := lv_entry ([.ref qk, .int a0, .ref qo]) (n := 4) (Nat.le_of_ble_eq_true rfl)
  rw [lg_entry_eq]
  generalize (lg_sl ([.ref qk, .int a0, .ref qo]) ++ List.replicate (4 - (lg_sl ([.ref qk, .int a0, .ref qo])).length) Slot.unset).toArray = ls at hl ⊢
  have hl : lv_has ls 4 [(0, .ref qk), (1, .int a0), (2, .ref qo)] := hl
  refine lv_aload_n hx hb dL_addHoliday_0 rfl (lv_at hl 2 rfl) ?_
  refine lv_iconst (v := 0) hx hb dL_addHoliday_1 (by decide) ?_
  refine lv_aload_n hx hb dL_addHoliday_2 rfl (lv_at hl 0 rfl) ?_
  refine lv_iload_n hx hb dL_addHoliday_3 rfl (lv_at hl 1 rfl) ?_
  have hPc := wp_tail hP
  have hDc := wd_tail hD
  have hFc : ∀ q, va_A (DW cI cO qk z g) s.heap.size q → A q := va_A_of hDc hS hA
  refine xU (vx_runV (As := [.int a0]) (rest := [.int 0, .ref qo]) ⟨hx, hb, hml, hown, hts⟩ (u_addHoliday l D cI cJ cO ah qk z g s.heap.size N a0 R hl0 hk) (cwV 1 hts gL_addHoliday_X4_addHoliday rfl rfl rfl (by decide +kernel) ⟨(Nat.le_of_ble_eq_true rfl), (Nat.le_of_ble_eq_true rfl)⟩) ⟨tp_blind, va_recv hK hP (ci := 3) (q0 := 1) rfl rfl, fun U hU hW => ⟨rfl, mp_at hZ hS hPc hK hDc hFc hU hW (Or.inr rfl), by rw [hU]; exact px_at hT hS hW hFc⟩⟩ rfl rfl hl.1 rfl (lv_room (Nat.le_of_ble_eq_true rfl)) dL_addHoliday_4 ⟨(Nat.le_of_ble_eq_true rfl), (Nat.le_of_ble_eq_true rfl)⟩) hS hFc (fun E ce q9 H1 locs1 hE hz9 hk9 hS9 hc9 hv9 hl9 => ?_) (fun u z1 H1 locs1 hu hP1 hD1 hz1 hk1 hS1 => ?_)
  · have hP9 : va_P D vwCl (eU cJ qo f :: DW cI cO qk z g) H1 := hP.kept (fun k q hq => hk9 q.1 (hP k q hq).lt)
    have hm := hE0 E hE
    simp only [List.mem_cons, List.not_mem_nil, or_false] at hm
    rcases hm with rfl | rfl
    · refine vx_catch hown [] ⟨0, 9, 12, 13⟩ [⟨0, 9, 15, 22⟩] (by rw [hte]; rfl) (fun z hz => nomatch hz) (by decide) (by decide) (hts (.classLink RL 13 "java/lang/IllegalArgumentException") (by decide +kernel)) (va_Nw.use rfl (hT.2.2.2 (.castable "java/lang/IllegalArgumentException" "java/lang/IllegalArgumentException") (by decide))) hc9 hv9 hl9 ?_
      refine lv_astore_n (lv' := [(3, .ref q9), (0, .ref qk), (1, .int a0), (2, .ref qo)]) hx hb dL_addHoliday_12 rfl hl (by decide) rfl (fun ls hl => ?_)
      refine lv_iconst (v := 1) hx hb dL_addHoliday_13 (by decide) ?_
      refine vx_ret ?_
      refine W.widen (k := 2) (n := 12) (Nat.le_of_ble_eq_true rfl) (Nat.le_of_ble_eq_true rfl) ?_
      have e9 : kR ["java/lang/IllegalArgumentException", "java/lang/IllegalStateException"] R = 1 := by rw [hE]; decide
      exact W.iret hx hb hr (fun t ht hW => ⟨z, f, by rw [e9], fun u h => (by rw [hE] at h; cases h), by rw [hE, ht]; exact hP9, by rw [hE]; exact hD, hS9.F ht⟩) hS9.2.2 dL_addHoliday_14
    · refine vx_catch hown [⟨0, 9, 12, 13⟩] ⟨0, 9, 15, 22⟩ [] (by rw [hte]; rfl) (fun z hz => by rw [List.mem_singleton.mp hz]; exact Or.inr ⟨by decide, _, hts (.classLink RL 13 "java/lang/IllegalArgumentException") (by decide +kernel), hn3⟩) (by decide) (by decide) (hts (.classLink RL 22 "java/lang/IllegalStateException") (by decide +kernel)) (va_Nw.use rfl (hT.2.2.2 (.castable "java/lang/IllegalStateException" "java/lang/IllegalStateException") (by decide))) hc9 hv9 hl9 ?_
      refine lv_astore_n (lv' := [(3, .ref q9), (0, .ref qk), (1, .int a0), (2, .ref qo)]) hx hb dL_addHoliday_15 rfl hl (by decide) rfl (fun ls hl => ?_)
      refine lv_iconst (v := 2) hx hb dL_addHoliday_16 (by decide) ?_
      refine vx_ret ?_
      refine W.widen (k := 2) (n := 12) (Nat.le_of_ble_eq_true rfl) (Nat.le_of_ble_eq_true rfl) ?_
      have e9 : kR ["java/lang/IllegalArgumentException", "java/lang/IllegalStateException"] R = 2 := by rw [hE]; decide
      exact W.iret hx hb hr (fun t ht hW => ⟨z, f, by rw [e9], fun u h => (by rw [hE] at h; cases h), by rw [hE, ht]; exact hP9, by rw [hE]; exact hD, hS9.F ht⟩) hS9.2.2 dL_addHoliday_17
  · obtain ⟨hP, hD⟩ := wjc hP hD hA hP1 hD1 hk1
    refine lv_i2l hx hb dL_addHoliday_7 rfl ?_
    refine va_last hx hb hK hP hD hS1 0 1 rfl rfl in01 dL_addHoliday_8 (fun H locs hP hD hS => ?_)
    refine lv_goto (tgt := 18) hx hb dL_addHoliday_9 (by decide) ?_
    refine lv_iconst (v := 0) hx hb dL_addHoliday_18 (by decide) ?_
    refine vx_ret ?_
    refine W.widen (k := 2) (n := 12) (Nat.le_of_ble_eq_true rfl) (Nat.le_of_ble_eq_true rfl) ?_
    exact W.iret hx hb hr (fun t ht hW => ⟨z1, vp_updL f (0 : Int32).toNatClampNeg (u.1.toInt64), by rw [hu]; rfl, fun u1 h => (by rw [hu] at h; cases h; rfl), by rw [hu, ht]; exact hP, by rw [hu]; exact hD, hS.F ht⟩) hS.2.2 dL_addHoliday_19
set_option maxHeartbeats 4000000 in
set_option maxRecDepth 100000 in
theorem h_working (l : Launch) (D : va_G) (cI cJ cO : ClassId) (ah qk qo : Nat) (f : Nat → Int64) (z : AZ) (g : SG) (sz N : Nat) (a0 : Int32) (R : (Int32 × SG) ⊕ String) (hl0 : l.stackTraces = false) (hk : k_working N g a0 = some R) (hE0 : ∀ E, R = .inr E → E ∈ ["java/lang/IllegalArgumentException"]) : Met l yL_working wsL_working ({ frames := 8, cells := 2, slots := 12, locals := 123 }) (va_Pc [.ref qk, .int a0, .ref qo] (hP0 D (ty3 cI cJ cO) (some ah) (eU cJ qo f :: DW cI cO qk z g) sz)) (HQ D cI cJ cO qk qo (va_A (eU cJ qo f :: DW cI cO qk z g) sz) ["java/lang/IllegalArgumentException"] Int32.toInt64 g R) 2 12 (va_A (eU cJ qo f :: DW cI cO qk z g) sz) := by
  refine met_of_vx (vx_ofWH (hh := [(0, 9, 12, 13)]) (cc := cL_working) (maxL := 4) (ret := (some .int)) (by decide) rfl ?_)
  intro p e s m args below meth c s₁ Bd hml hv
  obtain ⟨rfl, ⟨⟨hsz, hZ, hP, hK, hD0⟩, hT⟩, hn1, hn2, hn3⟩ := hv
  have hx := Bd.exec
  have hb := Bd.bytes
  have hr := Bd.returns
  have hts := atoms_spec (ws := wsL_working) Bd.pre
  have hown : s.vm.findClass RL = some m.cls := findClass_of_methodNamed Bd.named
  have hte : c.exceptionTable.toList = [⟨0, 9, 12, 13⟩] := vx_table (x := yL_working) Bd (hts (.codeWith yL_working cL_working 4 (some .int) [(0, 9, 12, 13)]) List.mem_cons_self)
  subst hsz
  have hD := hD0.self (sz := s.heap.size)
  generalize hAe : va_A (eU cJ qo f :: DW cI cO qk z g) s.heap.size = A at hD hZ hT ⊢
  have hA : ∀ q : Nat, s.heap.size ≤ q → A q := fun q h => by rw [← hAe]; exact Or.inr h
  have hS : va_S A s.heap s.heap [] := va_S.rf
  have hl := lv_entry ([.ref qk, .int a0, .ref qo]) (n := 4) (Nat.le_of_ble_eq_true rfl)
  rw [lg_entry_eq]
  generalize (lg_sl ([.ref qk, .int a0, .ref qo]) ++ List.replicate (4 - (lg_sl ([.ref qk, .int a0, .ref qo])).length) Slot.unset).toArray = ls at hl ⊢
  have hl : lv_has ls 4 [(0, .ref qk), (1, .int a0), (2, .ref qo)] := hl
  refine lv_aload_n hx hb dL_working_0 rfl (lv_at hl 2 rfl) ?_
  refine lv_iconst (v := 0) hx hb dL_working_1 (by decide) ?_
  refine lv_aload_n hx hb dL_working_2 rfl (lv_at hl 0 rfl) ?_
  refine lv_iload_n hx hb dL_working_3 rfl (lv_at hl 1 rfl) ?_
  have hPc := wp_tail hP
  have hDc := wd_tail hD
  have hFc : ∀ q, va_A (DW cI cO qk z g) s.heap.size q → A q := va_A_of hDc hS hA
  refine xU (vx_runV (As := [.int a0]) (rest := [.int 0, .ref qo]) ⟨hx, hb, hml, hown, hts⟩ (u_working l D cI cJ cO ah qk z g s.heap.size N a0 R hl0 hk) (cwV 1 hts gL_working_X4_working rfl rfl rfl (by decide +kernel) ⟨(Nat.le_of_ble_eq_true rfl), (Nat.le_of_ble_eq_true rfl)⟩) ⟨tp_blind, va_recv hK hP (ci := 3) (q0 := 1) rfl rfl, fun U hU hW => ⟨rfl, mp_at hZ hS hPc hK hDc hFc hU hW (Or.inr rfl), by rw [hU]; exact px_at hT hS hW hFc⟩⟩ rfl rfl hl.1 rfl (lv_room (Nat.le_of_ble_eq_true rfl)) dL_working_4 ⟨(Nat.le_of_ble_eq_true rfl), (Nat.le_of_ble_eq_true rfl)⟩) hS hFc (fun E ce q9 H1 locs1 hE hz9 hk9 hS9 hc9 hv9 hl9 => ?_) (fun u z1 H1 locs1 hu hP1 hD1 hz1 hk1 hS1 => ?_)
  · have hP9 : va_P D vwCl (eU cJ qo f :: DW cI cO qk z g) H1 := hP.kept (fun k q hq => hk9 q.1 (hP k q hq).lt)
    have hm := hE0 E hE
    simp only [List.mem_cons, List.not_mem_nil, or_false] at hm
    subst hm
    refine vx_catch hown [] ⟨0, 9, 12, 13⟩ [] (by rw [hte]; rfl) (fun z hz => nomatch hz) (by decide) (by decide) (hts (.classLink RL 13 "java/lang/IllegalArgumentException") (by decide +kernel)) (va_Nw.use rfl (hT.2.2.2 (.castable "java/lang/IllegalArgumentException" "java/lang/IllegalArgumentException") (by decide))) hc9 hv9 hl9 ?_
    refine lv_astore_n (lv' := [(3, .ref q9), (0, .ref qk), (1, .int a0), (2, .ref qo)]) hx hb dL_working_12 rfl hl (by decide) rfl (fun ls hl => ?_)
    refine lv_iconst (v := 1) hx hb dL_working_13 (by decide) ?_
    refine vx_ret ?_
    refine W.widen (k := 2) (n := 12) (Nat.le_of_ble_eq_true rfl) (Nat.le_of_ble_eq_true rfl) ?_
    have e9 : kR ["java/lang/IllegalArgumentException"] R = 1 := by rw [hE]; decide
    exact W.iret hx hb hr (fun t ht hW => ⟨z, f, by rw [e9], fun u h => (by rw [hE] at h; cases h), by rw [hE, ht]; exact hP9, by rw [hE]; exact hD, hS9.F ht⟩) hS9.2.2 dL_working_14
  · obtain ⟨hP, hD⟩ := wjc hP hD hA hP1 hD1 hk1
    refine lv_i2l hx hb dL_working_7 rfl ?_
    refine va_last hx hb hK hP hD hS1 0 1 rfl rfl in01 dL_working_8 (fun H locs hP hD hS => ?_)
    refine lv_goto (tgt := 15) hx hb dL_working_9 (by decide) ?_
    refine lv_iconst (v := 0) hx hb dL_working_15 (by decide) ?_
    refine vx_ret ?_
    refine W.widen (k := 2) (n := 12) (Nat.le_of_ble_eq_true rfl) (Nat.le_of_ble_eq_true rfl) ?_
    exact W.iret hx hb hr (fun t ht hW => ⟨z1, vp_updL f (0 : Int32).toNatClampNeg (u.1.toInt64), by rw [hu]; rfl, fun u1 h => (by rw [hu] at h; cases h; rfl), by rw [hu, ht]; exact hP, by rw [hu]; exact hD, hS.F ht⟩) hS.2.2 dL_working_16
set_option maxHeartbeats 4000000 in
set_option maxRecDepth 100000 in
theorem h_addBond (l : Launch) (D : va_G) (cI cJ cO : ClassId) (ah qk qo : Nat) (f : Nat → Int64) (z : AZ) (g : SG) (sz N : Nat) (a0 : Int32) (a1 : Int32) (a2 : Int32) (a3 : Int32) (a4 : Int32) (R : (Int32 × SG) ⊕ String) (hl0 : l.stackTraces = false) (hn0 : (g.1 4).toNatClampNeg = g.2.2.2.2.1) (hk : k_addBond N g a0 a1 a2 a3 a4 = some R) (hE0 : ∀ E, R = .inr E → E ∈ ["java/lang/IllegalArgumentException", "java/lang/IllegalStateException"]) : Met l yL_addBond wsL_addBond ({ frames := 9, cells := 8, slots := 168, locals := 150 }) (va_Pc [.ref qk, .int a0, .int a1, .int a2, .int a3, .int a4, .ref qo] (hP0 D (ty3 cI cJ cO) (some ah) (eU cJ qo f :: DW cI cO qk z g) sz)) (HQ D cI cJ cO qk qo (va_A (eU cJ qo f :: DW cI cO qk z g) sz) ["java/lang/IllegalArgumentException", "java/lang/IllegalStateException"] Int32.toInt64 g R) 8 168 (va_A (eU cJ qo f :: DW cI cO qk z g) sz) := by
  refine met_of_vx (vx_ofWH (hh := [(0, 16, 19, 13), (0, 16, 23, 22)]) (cc := cL_addBond) (maxL := 8) (ret := (some .int)) (by decide) rfl ?_)
  intro p e s m args below meth c s₁ Bd hml hv
  obtain ⟨rfl, ⟨⟨hsz, hZ, hP, hK, hD0⟩, hT⟩, hn1, hn2, hn3⟩ := hv
  have hx := Bd.exec
  have hb := Bd.bytes
  have hr := Bd.returns
  have hts := atoms_spec (ws := wsL_addBond) Bd.pre
  have hown : s.vm.findClass RL = some m.cls := findClass_of_methodNamed Bd.named
  have hte : c.exceptionTable.toList = [⟨0, 16, 19, 13⟩, ⟨0, 16, 23, 22⟩] := vx_table (x := yL_addBond) Bd (hts (.codeWith yL_addBond cL_addBond 8 (some .int) [(0, 16, 19, 13), (0, 16, 23, 22)]) List.mem_cons_self)
  subst hsz
  have hD := hD0.self (sz := s.heap.size)
  generalize hAe : va_A (eU cJ qo f :: DW cI cO qk z g) s.heap.size = A at hD hZ hT ⊢
  have hA : ∀ q : Nat, s.heap.size ≤ q → A q := fun q h => by rw [← hAe]; exact Or.inr h
  have hS : va_S A s.heap s.heap [] := va_S.rf
  have hl := lv_entry ([.ref qk, .int a0, .int a1, .int a2, .int a3, .int a4, .ref qo]) (n := 8) (Nat.le_of_ble_eq_true rfl)
  rw [lg_entry_eq]
  generalize (lg_sl ([.ref qk, .int a0, .int a1, .int a2, .int a3, .int a4, .ref qo]) ++ List.replicate (8 - (lg_sl ([.ref qk, .int a0, .int a1, .int a2, .int a3, .int a4, .ref qo])).length) Slot.unset).toArray = ls at hl ⊢
  have hl : lv_has ls 8 [(0, .ref qk), (1, .int a0), (2, .int a1), (3, .int a2), (4, .int a3), (5, .int a4), (6, .ref qo)] := hl
  refine lv_aload hx hb dL_addBond_0 (lv_at hl 6 rfl) ?_
  refine lv_iconst (v := 0) hx hb dL_addBond_2 (by decide) ?_
  refine lv_aload_n hx hb dL_addBond_3 rfl (lv_at hl 0 rfl) ?_
  refine lv_iload_n hx hb dL_addBond_4 rfl (lv_at hl 1 rfl) ?_
  refine lv_iload_n hx hb dL_addBond_5 rfl (lv_at hl 2 rfl) ?_
  refine lv_iload_n hx hb dL_addBond_6 rfl (lv_at hl 3 rfl) ?_
  refine lv_iload hx hb dL_addBond_7 (lv_at hl 4 rfl) ?_
  refine lv_iload hx hb dL_addBond_9 (lv_at hl 5 rfl) ?_
  have hPc := wp_tail hP
  have hDc := wd_tail hD
  have hFc : ∀ q, va_A (DW cI cO qk z g) s.heap.size q → A q := va_A_of hDc hS hA
  refine xU (vx_runV (As := [.int a0, .int a1, .int a2, .int a3, .int a4]) (rest := [.int 0, .ref qo]) ⟨hx, hb, hml, hown, hts⟩ (u_addBond l D cI cJ cO ah qk z g s.heap.size N a0 a1 a2 a3 a4 R hl0 hn0 hk) (cwV 5 hts gL_addBond_X4_addBond rfl rfl rfl (by decide +kernel) ⟨(Nat.le_of_ble_eq_true rfl), (Nat.le_of_ble_eq_true rfl)⟩) ⟨tp_blind, va_recv hK hP (ci := 3) (q0 := 1) rfl rfl, fun U hU hW => ⟨rfl, mp_at hZ hS hPc hK hDc hFc hU hW (Or.inr rfl), by rw [hU]; exact px_at hT hS hW hFc⟩⟩ rfl rfl hl.1 rfl (lv_room (Nat.le_of_ble_eq_true rfl)) dL_addBond_11 ⟨(Nat.le_of_ble_eq_true rfl), (Nat.le_of_ble_eq_true rfl)⟩) hS hFc (fun E ce q9 H1 locs1 hE hz9 hk9 hS9 hc9 hv9 hl9 => ?_) (fun u z1 H1 locs1 hu hP1 hD1 hz1 hk1 hS1 => ?_)
  · have hP9 : va_P D vwCl (eU cJ qo f :: DW cI cO qk z g) H1 := hP.kept (fun k q hq => hk9 q.1 (hP k q hq).lt)
    have hm := hE0 E hE
    simp only [List.mem_cons, List.not_mem_nil, or_false] at hm
    rcases hm with rfl | rfl
    · refine vx_catch hown [] ⟨0, 16, 19, 13⟩ [⟨0, 16, 23, 22⟩] (by rw [hte]; rfl) (fun z hz => nomatch hz) (by decide) (by decide) (hts (.classLink RL 13 "java/lang/IllegalArgumentException") (by decide +kernel)) (va_Nw.use rfl (hT.2.2.2 (.castable "java/lang/IllegalArgumentException" "java/lang/IllegalArgumentException") (by decide))) hc9 hv9 hl9 ?_
      refine lv_astore (lv' := [(7, .ref q9), (0, .ref qk), (1, .int a0), (2, .int a1), (3, .int a2), (4, .int a3), (5, .int a4), (6, .ref qo)]) hx hb dL_addBond_19 hl (by decide) rfl (fun ls hl => ?_)
      refine lv_iconst (v := 1) hx hb dL_addBond_21 (by decide) ?_
      refine vx_ret ?_
      refine W.widen (k := 8) (n := 168) (Nat.le_of_ble_eq_true rfl) (Nat.le_of_ble_eq_true rfl) ?_
      have e9 : kR ["java/lang/IllegalArgumentException", "java/lang/IllegalStateException"] R = 1 := by rw [hE]; decide
      exact W.iret hx hb hr (fun t ht hW => ⟨z, f, by rw [e9], fun u h => (by rw [hE] at h; cases h), by rw [hE, ht]; exact hP9, by rw [hE]; exact hD, hS9.F ht⟩) hS9.2.2 dL_addBond_22
    · refine vx_catch hown [⟨0, 16, 19, 13⟩] ⟨0, 16, 23, 22⟩ [] (by rw [hte]; rfl) (fun z hz => by rw [List.mem_singleton.mp hz]; exact Or.inr ⟨by decide, _, hts (.classLink RL 13 "java/lang/IllegalArgumentException") (by decide +kernel), hn3⟩) (by decide) (by decide) (hts (.classLink RL 22 "java/lang/IllegalStateException") (by decide +kernel)) (va_Nw.use rfl (hT.2.2.2 (.castable "java/lang/IllegalStateException" "java/lang/IllegalStateException") (by decide))) hc9 hv9 hl9 ?_
      refine lv_astore (lv' := [(7, .ref q9), (0, .ref qk), (1, .int a0), (2, .int a1), (3, .int a2), (4, .int a3), (5, .int a4), (6, .ref qo)]) hx hb dL_addBond_23 hl (by decide) rfl (fun ls hl => ?_)
      refine lv_iconst (v := 2) hx hb dL_addBond_25 (by decide) ?_
      refine vx_ret ?_
      refine W.widen (k := 8) (n := 168) (Nat.le_of_ble_eq_true rfl) (Nat.le_of_ble_eq_true rfl) ?_
      have e9 : kR ["java/lang/IllegalArgumentException", "java/lang/IllegalStateException"] R = 2 := by rw [hE]; decide
      exact W.iret hx hb hr (fun t ht hW => ⟨z, f, by rw [e9], fun u h => (by rw [hE] at h; cases h), by rw [hE, ht]; exact hP9, by rw [hE]; exact hD, hS9.F ht⟩) hS9.2.2 dL_addBond_26
  · obtain ⟨hP, hD⟩ := wjc hP hD hA hP1 hD1 hk1
    refine lv_i2l hx hb dL_addBond_14 rfl ?_
    refine va_last hx hb hK hP hD hS1 0 1 rfl rfl in01 dL_addBond_15 (fun H locs hP hD hS => ?_)
    refine lv_goto (tgt := 27) hx hb dL_addBond_16 (by decide) ?_
    refine lv_iconst (v := 0) hx hb dL_addBond_27 (by decide) ?_
    refine vx_ret ?_
    refine W.widen (k := 8) (n := 168) (Nat.le_of_ble_eq_true rfl) (Nat.le_of_ble_eq_true rfl) ?_
    exact W.iret hx hb hr (fun t ht hW => ⟨z1, vp_updL f (0 : Int32).toNatClampNeg (u.1.toInt64), by rw [hu]; rfl, fun u1 h => (by rw [hu] at h; cases h; rfl), by rw [hu, ht]; exact hP, by rw [hu]; exact hD, hS.F ht⟩) hS.2.2 dL_addBond_28
set_option maxHeartbeats 4000000 in
set_option maxRecDepth 100000 in
theorem h_setSink (l : Launch) (D : va_G) (cI cJ cO : ClassId) (ah qk qo : Nat) (f : Nat → Int64) (z : AZ) (g : SG) (sz N : Nat) (a0 : Int32) (a1 : Int32) (a2 : Int32) (R : (Int32 × SG) ⊕ String) (hl0 : l.stackTraces = false) (hk : k_setSink N g a0 a1 a2 = some R) (hE0 : ∀ E, R = .inr E → E ∈ ["java/lang/IndexOutOfBoundsException", "java/lang/IllegalArgumentException", "java/lang/IllegalStateException"]) : Met l yL_setSink wsL_setSink ({ frames := 8, cells := 3, slots := 18, locals := 128 }) (va_Pc [.ref qk, .int a0, .int a1, .int a2, .ref qo] (hP0 D (ty3 cI cJ cO) (some ah) (eU cJ qo f :: DW cI cO qk z g) sz)) (HQ D cI cJ cO qk qo (va_A (eU cJ qo f :: DW cI cO qk z g) sz) ["java/lang/IndexOutOfBoundsException", "java/lang/IllegalArgumentException", "java/lang/IllegalStateException"] Int32.toInt64 g R) 3 18 (va_A (eU cJ qo f :: DW cI cO qk z g) sz) := by
  refine met_of_vx (vx_ofWH (hh := [(0, 12, 15, 35), (0, 12, 19, 13), (0, 12, 23, 22)]) (cc := cL_setSink) (maxL := 6) (ret := (some .int)) (by decide) rfl ?_)
  intro p e s m args below meth c s₁ Bd hml hv
  obtain ⟨rfl, ⟨⟨hsz, hZ, hP, hK, hD0⟩, hT⟩, hn1, hn2, hn3⟩ := hv
  have hx := Bd.exec
  have hb := Bd.bytes
  have hr := Bd.returns
  have hts := atoms_spec (ws := wsL_setSink) Bd.pre
  have hown : s.vm.findClass RL = some m.cls := findClass_of_methodNamed Bd.named
  have hte : c.exceptionTable.toList = [⟨0, 12, 15, 35⟩, ⟨0, 12, 19, 13⟩, ⟨0, 12, 23, 22⟩] := vx_table (x := yL_setSink) Bd (hts (.codeWith yL_setSink cL_setSink 6 (some .int) [(0, 12, 15, 35), (0, 12, 19, 13), (0, 12, 23, 22)]) List.mem_cons_self)
  subst hsz
  have hD := hD0.self (sz := s.heap.size)
  generalize hAe : va_A (eU cJ qo f :: DW cI cO qk z g) s.heap.size = A at hD hZ hT ⊢
  have hA : ∀ q : Nat, s.heap.size ≤ q → A q := fun q h => by rw [← hAe]; exact Or.inr h
  have hS : va_S A s.heap s.heap [] := va_S.rf
  have hl := lv_entry ([.ref qk, .int a0, .int a1, .int a2, .ref qo]) (n := 6) (Nat.le_of_ble_eq_true rfl)
  rw [lg_entry_eq]
  generalize (lg_sl ([.ref qk, .int a0, .int a1, .int a2, .ref qo]) ++ List.replicate (6 - (lg_sl ([.ref qk, .int a0, .int a1, .int a2, .ref qo])).length) Slot.unset).toArray = ls at hl ⊢
  have hl : lv_has ls 6 [(0, .ref qk), (1, .int a0), (2, .int a1), (3, .int a2), (4, .ref qo)] := hl
  refine lv_aload hx hb dL_setSink_0 (lv_at hl 4 rfl) ?_
  refine lv_iconst (v := 0) hx hb dL_setSink_2 (by decide) ?_
  refine lv_aload_n hx hb dL_setSink_3 rfl (lv_at hl 0 rfl) ?_
  refine lv_iload_n hx hb dL_setSink_4 rfl (lv_at hl 1 rfl) ?_
  refine lv_iload_n hx hb dL_setSink_5 rfl (lv_at hl 2 rfl) ?_
  refine lv_iload_n hx hb dL_setSink_6 rfl (lv_at hl 3 rfl) ?_
  have hPc := wp_tail hP
  have hDc := wd_tail hD
  have hFc : ∀ q, va_A (DW cI cO qk z g) s.heap.size q → A q := va_A_of hDc hS hA
  refine xU (vx_runV (As := [.int a0, .int a1, .int a2]) (rest := [.int 0, .ref qo]) ⟨hx, hb, hml, hown, hts⟩ (u_setSink l D cI cJ cO ah qk z g s.heap.size N a0 a1 a2 R hl0 hk) (cwV 3 hts gL_setSink_X4_setSink rfl rfl rfl (by decide +kernel) ⟨(Nat.le_of_ble_eq_true rfl), (Nat.le_of_ble_eq_true rfl)⟩) ⟨tp_blind, va_recv hK hP (ci := 3) (q0 := 1) rfl rfl, fun U hU hW => ⟨rfl, mp_at hZ hS hPc hK hDc hFc hU hW (Or.inr rfl), by rw [hU]; exact px_at hT hS hW hFc⟩⟩ rfl rfl hl.1 rfl (lv_room (Nat.le_of_ble_eq_true rfl)) dL_setSink_7 ⟨(Nat.le_of_ble_eq_true rfl), (Nat.le_of_ble_eq_true rfl)⟩) hS hFc (fun E ce q9 H1 locs1 hE hz9 hk9 hS9 hc9 hv9 hl9 => ?_) (fun u z1 H1 locs1 hu hP1 hD1 hz1 hk1 hS1 => ?_)
  · have hP9 : va_P D vwCl (eU cJ qo f :: DW cI cO qk z g) H1 := hP.kept (fun k q hq => hk9 q.1 (hP k q hq).lt)
    have hm := hE0 E hE
    simp only [List.mem_cons, List.not_mem_nil, or_false] at hm
    rcases hm with rfl | rfl | rfl
    · refine vx_catch hown [] ⟨0, 12, 15, 35⟩ [⟨0, 12, 19, 13⟩, ⟨0, 12, 23, 22⟩] (by rw [hte]; rfl) (fun z hz => nomatch hz) (by decide) (by decide) (hts (.classLink RL 35 "java/lang/IndexOutOfBoundsException") (by decide +kernel)) (va_Nw.use rfl (hT.2.2.2 (.castable "java/lang/IndexOutOfBoundsException" "java/lang/IndexOutOfBoundsException") (by decide))) hc9 hv9 hl9 ?_
      refine lv_astore (lv' := [(5, .ref q9), (0, .ref qk), (1, .int a0), (2, .int a1), (3, .int a2), (4, .ref qo)]) hx hb dL_setSink_15 hl (by decide) rfl (fun ls hl => ?_)
      refine lv_iconst (v := 1) hx hb dL_setSink_17 (by decide) ?_
      refine vx_ret ?_
      refine W.widen (k := 3) (n := 18) (Nat.le_of_ble_eq_true rfl) (Nat.le_of_ble_eq_true rfl) ?_
      have e9 : kR ["java/lang/IndexOutOfBoundsException", "java/lang/IllegalArgumentException", "java/lang/IllegalStateException"] R = 1 := by rw [hE]; decide
      exact W.iret hx hb hr (fun t ht hW => ⟨z, f, by rw [e9], fun u h => (by rw [hE] at h; cases h), by rw [hE, ht]; exact hP9, by rw [hE]; exact hD, hS9.F ht⟩) hS9.2.2 dL_setSink_18
    · refine vx_catch hown [⟨0, 12, 15, 35⟩] ⟨0, 12, 19, 13⟩ [⟨0, 12, 23, 22⟩] (by rw [hte]; rfl) (fun z hz => by rw [List.mem_singleton.mp hz]; exact Or.inr ⟨by decide, _, hts (.classLink RL 35 "java/lang/IndexOutOfBoundsException") (by decide +kernel), hn1⟩) (by decide) (by decide) (hts (.classLink RL 13 "java/lang/IllegalArgumentException") (by decide +kernel)) (va_Nw.use rfl (hT.2.2.2 (.castable "java/lang/IllegalArgumentException" "java/lang/IllegalArgumentException") (by decide))) hc9 hv9 hl9 ?_
      refine lv_astore (lv' := [(5, .ref q9), (0, .ref qk), (1, .int a0), (2, .int a1), (3, .int a2), (4, .ref qo)]) hx hb dL_setSink_19 hl (by decide) rfl (fun ls hl => ?_)
      refine lv_iconst (v := 2) hx hb dL_setSink_21 (by decide) ?_
      refine vx_ret ?_
      refine W.widen (k := 3) (n := 18) (Nat.le_of_ble_eq_true rfl) (Nat.le_of_ble_eq_true rfl) ?_
      have e9 : kR ["java/lang/IndexOutOfBoundsException", "java/lang/IllegalArgumentException", "java/lang/IllegalStateException"] R = 2 := by rw [hE]; decide
      exact W.iret hx hb hr (fun t ht hW => ⟨z, f, by rw [e9], fun u h => (by rw [hE] at h; cases h), by rw [hE, ht]; exact hP9, by rw [hE]; exact hD, hS9.F ht⟩) hS9.2.2 dL_setSink_22
    · refine vx_catch hown [⟨0, 12, 15, 35⟩, ⟨0, 12, 19, 13⟩] ⟨0, 12, 23, 22⟩ [] (by rw [hte]; rfl) (fun z hz => by rcases List.mem_cons.mp hz with h | h; rw [h]; exact Or.inr ⟨by decide, _, hts (.classLink RL 35 "java/lang/IndexOutOfBoundsException") (by decide +kernel), hn2⟩; rw [List.mem_singleton.mp h]; exact Or.inr ⟨by decide, _, hts (.classLink RL 13 "java/lang/IllegalArgumentException") (by decide +kernel), hn3⟩) (by decide) (by decide) (hts (.classLink RL 22 "java/lang/IllegalStateException") (by decide +kernel)) (va_Nw.use rfl (hT.2.2.2 (.castable "java/lang/IllegalStateException" "java/lang/IllegalStateException") (by decide))) hc9 hv9 hl9 ?_
      refine lv_astore (lv' := [(5, .ref q9), (0, .ref qk), (1, .int a0), (2, .int a1), (3, .int a2), (4, .ref qo)]) hx hb dL_setSink_23 hl (by decide) rfl (fun ls hl => ?_)
      refine lv_iconst (v := 3) hx hb dL_setSink_25 (by decide) ?_
      refine vx_ret ?_
      refine W.widen (k := 3) (n := 18) (Nat.le_of_ble_eq_true rfl) (Nat.le_of_ble_eq_true rfl) ?_
      have e9 : kR ["java/lang/IndexOutOfBoundsException", "java/lang/IllegalArgumentException", "java/lang/IllegalStateException"] R = 3 := by rw [hE]; decide
      exact W.iret hx hb hr (fun t ht hW => ⟨z, f, by rw [e9], fun u h => (by rw [hE] at h; cases h), by rw [hE, ht]; exact hP9, by rw [hE]; exact hD, hS9.F ht⟩) hS9.2.2 dL_setSink_26
  · obtain ⟨hP, hD⟩ := wjc hP hD hA hP1 hD1 hk1
    refine lv_i2l hx hb dL_setSink_10 rfl ?_
    refine va_last hx hb hK hP hD hS1 0 1 rfl rfl in01 dL_setSink_11 (fun H locs hP hD hS => ?_)
    refine lv_goto (tgt := 27) hx hb dL_setSink_12 (by decide) ?_
    refine lv_iconst (v := 0) hx hb dL_setSink_27 (by decide) ?_
    refine vx_ret ?_
    refine W.widen (k := 3) (n := 18) (Nat.le_of_ble_eq_true rfl) (Nat.le_of_ble_eq_true rfl) ?_
    exact W.iret hx hb hr (fun t ht hW => ⟨z1, vp_updL f (0 : Int32).toNatClampNeg (u.1.toInt64), by rw [hu]; rfl, fun u1 h => (by rw [hu] at h; cases h; rfl), by rw [hu, ht]; exact hP, by rw [hu]; exact hD, hS.F ht⟩) hS.2.2 dL_setSink_28
set_option maxHeartbeats 4000000 in
set_option maxRecDepth 100000 in
theorem h_setCall (l : Launch) (D : va_G) (cI cJ cO : ClassId) (ah qk qo : Nat) (f : Nat → Int64) (z : AZ) (g : SG) (sz N : Nat) (a0 : Int32) (a1 : Int32) (a2 : Int32) (R : (Int32 × SG) ⊕ String) (hl0 : l.stackTraces = false) (hk : k_setCall N g a0 a1 a2 = some R) (hE0 : ∀ E, R = .inr E → E ∈ ["java/lang/IndexOutOfBoundsException", "java/lang/IllegalArgumentException", "java/lang/IllegalStateException"]) : Met l yL_setCall wsL_setCall ({ frames := 8, cells := 3, slots := 18, locals := 128 }) (va_Pc [.ref qk, .int a0, .int a1, .int a2, .ref qo] (hP0 D (ty3 cI cJ cO) (some ah) (eU cJ qo f :: DW cI cO qk z g) sz)) (HQ D cI cJ cO qk qo (va_A (eU cJ qo f :: DW cI cO qk z g) sz) ["java/lang/IndexOutOfBoundsException", "java/lang/IllegalArgumentException", "java/lang/IllegalStateException"] Int32.toInt64 g R) 3 18 (va_A (eU cJ qo f :: DW cI cO qk z g) sz) := by
  refine met_of_vx (vx_ofWH (hh := [(0, 12, 15, 35), (0, 12, 19, 13), (0, 12, 23, 22)]) (cc := cL_setCall) (maxL := 6) (ret := (some .int)) (by decide) rfl ?_)
  intro p e s m args below meth c s₁ Bd hml hv
  obtain ⟨rfl, ⟨⟨hsz, hZ, hP, hK, hD0⟩, hT⟩, hn1, hn2, hn3⟩ := hv
  have hx := Bd.exec
  have hb := Bd.bytes
  have hr := Bd.returns
  have hts := atoms_spec (ws := wsL_setCall) Bd.pre
  have hown : s.vm.findClass RL = some m.cls := findClass_of_methodNamed Bd.named
  have hte : c.exceptionTable.toList = [⟨0, 12, 15, 35⟩, ⟨0, 12, 19, 13⟩, ⟨0, 12, 23, 22⟩] := vx_table (x := yL_setCall) Bd (hts (.codeWith yL_setCall cL_setCall 6 (some .int) [(0, 12, 15, 35), (0, 12, 19, 13), (0, 12, 23, 22)]) List.mem_cons_self)
  subst hsz
  have hD := hD0.self (sz := s.heap.size)
  generalize hAe : va_A (eU cJ qo f :: DW cI cO qk z g) s.heap.size = A at hD hZ hT ⊢
  have hA : ∀ q : Nat, s.heap.size ≤ q → A q := fun q h => by rw [← hAe]; exact Or.inr h
  have hS : va_S A s.heap s.heap [] := va_S.rf
  have hl := lv_entry ([.ref qk, .int a0, .int a1, .int a2, .ref qo]) (n := 6) (Nat.le_of_ble_eq_true rfl)
  rw [lg_entry_eq]
  generalize (lg_sl ([.ref qk, .int a0, .int a1, .int a2, .ref qo]) ++ List.replicate (6 - (lg_sl ([.ref qk, .int a0, .int a1, .int a2, .ref qo])).length) Slot.unset).toArray = ls at hl ⊢
  have hl : lv_has ls 6 [(0, .ref qk), (1, .int a0), (2, .int a1), (3, .int a2), (4, .ref qo)] := hl
  refine lv_aload hx hb dL_setCall_0 (lv_at hl 4 rfl) ?_
  refine lv_iconst (v := 0) hx hb dL_setCall_2 (by decide) ?_
  refine lv_aload_n hx hb dL_setCall_3 rfl (lv_at hl 0 rfl) ?_
  refine lv_iload_n hx hb dL_setCall_4 rfl (lv_at hl 1 rfl) ?_
  refine lv_iload_n hx hb dL_setCall_5 rfl (lv_at hl 2 rfl) ?_
  refine lv_iload_n hx hb dL_setCall_6 rfl (lv_at hl 3 rfl) ?_
  have hPc := wp_tail hP
  have hDc := wd_tail hD
  have hFc : ∀ q, va_A (DW cI cO qk z g) s.heap.size q → A q := va_A_of hDc hS hA
  refine xU (vx_runV (As := [.int a0, .int a1, .int a2]) (rest := [.int 0, .ref qo]) ⟨hx, hb, hml, hown, hts⟩ (u_setCall l D cI cJ cO ah qk z g s.heap.size N a0 a1 a2 R hl0 hk) (cwV 3 hts gL_setCall_X4_setCall rfl rfl rfl (by decide +kernel) ⟨(Nat.le_of_ble_eq_true rfl), (Nat.le_of_ble_eq_true rfl)⟩) ⟨tp_blind, va_recv hK hP (ci := 3) (q0 := 1) rfl rfl, fun U hU hW => ⟨rfl, mp_at hZ hS hPc hK hDc hFc hU hW (Or.inr rfl), by rw [hU]; exact px_at hT hS hW hFc⟩⟩ rfl rfl hl.1 rfl (lv_room (Nat.le_of_ble_eq_true rfl)) dL_setCall_7 ⟨(Nat.le_of_ble_eq_true rfl), (Nat.le_of_ble_eq_true rfl)⟩) hS hFc (fun E ce q9 H1 locs1 hE hz9 hk9 hS9 hc9 hv9 hl9 => ?_) (fun u z1 H1 locs1 hu hP1 hD1 hz1 hk1 hS1 => ?_)
  · have hP9 : va_P D vwCl (eU cJ qo f :: DW cI cO qk z g) H1 := hP.kept (fun k q hq => hk9 q.1 (hP k q hq).lt)
    have hm := hE0 E hE
    simp only [List.mem_cons, List.not_mem_nil, or_false] at hm
    rcases hm with rfl | rfl | rfl
    · refine vx_catch hown [] ⟨0, 12, 15, 35⟩ [⟨0, 12, 19, 13⟩, ⟨0, 12, 23, 22⟩] (by rw [hte]; rfl) (fun z hz => nomatch hz) (by decide) (by decide) (hts (.classLink RL 35 "java/lang/IndexOutOfBoundsException") (by decide +kernel)) (va_Nw.use rfl (hT.2.2.2 (.castable "java/lang/IndexOutOfBoundsException" "java/lang/IndexOutOfBoundsException") (by decide))) hc9 hv9 hl9 ?_
      refine lv_astore (lv' := [(5, .ref q9), (0, .ref qk), (1, .int a0), (2, .int a1), (3, .int a2), (4, .ref qo)]) hx hb dL_setCall_15 hl (by decide) rfl (fun ls hl => ?_)
      refine lv_iconst (v := 1) hx hb dL_setCall_17 (by decide) ?_
      refine vx_ret ?_
      refine W.widen (k := 3) (n := 18) (Nat.le_of_ble_eq_true rfl) (Nat.le_of_ble_eq_true rfl) ?_
      have e9 : kR ["java/lang/IndexOutOfBoundsException", "java/lang/IllegalArgumentException", "java/lang/IllegalStateException"] R = 1 := by rw [hE]; decide
      exact W.iret hx hb hr (fun t ht hW => ⟨z, f, by rw [e9], fun u h => (by rw [hE] at h; cases h), by rw [hE, ht]; exact hP9, by rw [hE]; exact hD, hS9.F ht⟩) hS9.2.2 dL_setCall_18
    · refine vx_catch hown [⟨0, 12, 15, 35⟩] ⟨0, 12, 19, 13⟩ [⟨0, 12, 23, 22⟩] (by rw [hte]; rfl) (fun z hz => by rw [List.mem_singleton.mp hz]; exact Or.inr ⟨by decide, _, hts (.classLink RL 35 "java/lang/IndexOutOfBoundsException") (by decide +kernel), hn1⟩) (by decide) (by decide) (hts (.classLink RL 13 "java/lang/IllegalArgumentException") (by decide +kernel)) (va_Nw.use rfl (hT.2.2.2 (.castable "java/lang/IllegalArgumentException" "java/lang/IllegalArgumentException") (by decide))) hc9 hv9 hl9 ?_
      refine lv_astore (lv' := [(5, .ref q9), (0, .ref qk), (1, .int a0), (2, .int a1), (3, .int a2), (4, .ref qo)]) hx hb dL_setCall_19 hl (by decide) rfl (fun ls hl => ?_)
      refine lv_iconst (v := 2) hx hb dL_setCall_21 (by decide) ?_
      refine vx_ret ?_
      refine W.widen (k := 3) (n := 18) (Nat.le_of_ble_eq_true rfl) (Nat.le_of_ble_eq_true rfl) ?_
      have e9 : kR ["java/lang/IndexOutOfBoundsException", "java/lang/IllegalArgumentException", "java/lang/IllegalStateException"] R = 2 := by rw [hE]; decide
      exact W.iret hx hb hr (fun t ht hW => ⟨z, f, by rw [e9], fun u h => (by rw [hE] at h; cases h), by rw [hE, ht]; exact hP9, by rw [hE]; exact hD, hS9.F ht⟩) hS9.2.2 dL_setCall_22
    · refine vx_catch hown [⟨0, 12, 15, 35⟩, ⟨0, 12, 19, 13⟩] ⟨0, 12, 23, 22⟩ [] (by rw [hte]; rfl) (fun z hz => by rcases List.mem_cons.mp hz with h | h; rw [h]; exact Or.inr ⟨by decide, _, hts (.classLink RL 35 "java/lang/IndexOutOfBoundsException") (by decide +kernel), hn2⟩; rw [List.mem_singleton.mp h]; exact Or.inr ⟨by decide, _, hts (.classLink RL 13 "java/lang/IllegalArgumentException") (by decide +kernel), hn3⟩) (by decide) (by decide) (hts (.classLink RL 22 "java/lang/IllegalStateException") (by decide +kernel)) (va_Nw.use rfl (hT.2.2.2 (.castable "java/lang/IllegalStateException" "java/lang/IllegalStateException") (by decide))) hc9 hv9 hl9 ?_
      refine lv_astore (lv' := [(5, .ref q9), (0, .ref qk), (1, .int a0), (2, .int a1), (3, .int a2), (4, .ref qo)]) hx hb dL_setCall_23 hl (by decide) rfl (fun ls hl => ?_)
      refine lv_iconst (v := 3) hx hb dL_setCall_25 (by decide) ?_
      refine vx_ret ?_
      refine W.widen (k := 3) (n := 18) (Nat.le_of_ble_eq_true rfl) (Nat.le_of_ble_eq_true rfl) ?_
      have e9 : kR ["java/lang/IndexOutOfBoundsException", "java/lang/IllegalArgumentException", "java/lang/IllegalStateException"] R = 3 := by rw [hE]; decide
      exact W.iret hx hb hr (fun t ht hW => ⟨z, f, by rw [e9], fun u h => (by rw [hE] at h; cases h), by rw [hE, ht]; exact hP9, by rw [hE]; exact hD, hS9.F ht⟩) hS9.2.2 dL_setCall_26
  · obtain ⟨hP, hD⟩ := wjc hP hD hA hP1 hD1 hk1
    refine lv_i2l hx hb dL_setCall_10 rfl ?_
    refine va_last hx hb hK hP hD hS1 0 1 rfl rfl in01 dL_setCall_11 (fun H locs hP hD hS => ?_)
    refine lv_goto (tgt := 27) hx hb dL_setCall_12 (by decide) ?_
    refine lv_iconst (v := 0) hx hb dL_setCall_27 (by decide) ?_
    refine vx_ret ?_
    refine W.widen (k := 3) (n := 18) (Nat.le_of_ble_eq_true rfl) (Nat.le_of_ble_eq_true rfl) ?_
    exact W.iret hx hb hr (fun t ht hW => ⟨z1, vp_updL f (0 : Int32).toNatClampNeg (u.1.toInt64), by rw [hu]; rfl, fun u1 h => (by rw [hu] at h; cases h; rfl), by rw [hu, ht]; exact hP, by rw [hu]; exact hD, hS.F ht⟩) hS.2.2 dL_setCall_28
set_option maxHeartbeats 4000000 in
set_option maxRecDepth 100000 in
theorem h_setRate (l : Launch) (D : va_G) (cI cJ cO : ClassId) (ah qk qo : Nat) (f : Nat → Int64) (z : AZ) (g : SG) (sz N : Nat) (a0 : Int32) (R : (Int32 × SG) ⊕ String) (hl0 : l.stackTraces = false) (hk : k_setRate N g a0 = some R) (hE0 : ∀ E, R = .inr E → E ∈ ["java/lang/IllegalArgumentException"]) : Met l yL_setRate wsL_setRate ({ frames := 8, cells := 1, slots := 6, locals := 124 }) (va_Pc [.ref qk, .int a0, .ref qo] (hP0 D (ty3 cI cJ cO) (some ah) (eU cJ qo f :: DW cI cO qk z g) sz)) (HQ D cI cJ cO qk qo (va_A (eU cJ qo f :: DW cI cO qk z g) sz) ["java/lang/IllegalArgumentException"] Int32.toInt64 g R) 1 6 (va_A (eU cJ qo f :: DW cI cO qk z g) sz) := by
  refine met_of_vx (vx_ofWH (hh := [(0, 9, 12, 13)]) (cc := cL_setRate) (maxL := 4) (ret := (some .int)) (by decide) rfl ?_)
  intro p e s m args below meth c s₁ Bd hml hv
  obtain ⟨rfl, ⟨⟨hsz, hZ, hP, hK, hD0⟩, hT⟩, hn1, hn2, hn3⟩ := hv
  have hx := Bd.exec
  have hb := Bd.bytes
  have hr := Bd.returns
  have hts := atoms_spec (ws := wsL_setRate) Bd.pre
  have hown : s.vm.findClass RL = some m.cls := findClass_of_methodNamed Bd.named
  have hte : c.exceptionTable.toList = [⟨0, 9, 12, 13⟩] := vx_table (x := yL_setRate) Bd (hts (.codeWith yL_setRate cL_setRate 4 (some .int) [(0, 9, 12, 13)]) List.mem_cons_self)
  subst hsz
  have hD := hD0.self (sz := s.heap.size)
  generalize hAe : va_A (eU cJ qo f :: DW cI cO qk z g) s.heap.size = A at hD hZ hT ⊢
  have hA : ∀ q : Nat, s.heap.size ≤ q → A q := fun q h => by rw [← hAe]; exact Or.inr h
  have hS : va_S A s.heap s.heap [] := va_S.rf
  have hl := lv_entry ([.ref qk, .int a0, .ref qo]) (n := 4) (Nat.le_of_ble_eq_true rfl)
  rw [lg_entry_eq]
  generalize (lg_sl ([.ref qk, .int a0, .ref qo]) ++ List.replicate (4 - (lg_sl ([.ref qk, .int a0, .ref qo])).length) Slot.unset).toArray = ls at hl ⊢
  have hl : lv_has ls 4 [(0, .ref qk), (1, .int a0), (2, .ref qo)] := hl
  refine lv_aload_n hx hb dL_setRate_0 rfl (lv_at hl 2 rfl) ?_
  refine lv_iconst (v := 0) hx hb dL_setRate_1 (by decide) ?_
  refine lv_aload_n hx hb dL_setRate_2 rfl (lv_at hl 0 rfl) ?_
  refine lv_iload_n hx hb dL_setRate_3 rfl (lv_at hl 1 rfl) ?_
  have hPc := wp_tail hP
  have hDc := wd_tail hD
  have hFc : ∀ q, va_A (DW cI cO qk z g) s.heap.size q → A q := va_A_of hDc hS hA
  refine xU (vx_runV (As := [.int a0]) (rest := [.int 0, .ref qo]) ⟨hx, hb, hml, hown, hts⟩ (u_setRate l D cI cJ cO ah qk z g s.heap.size N a0 R hl0 hk) (cwV 1 hts gL_setRate_X4_setRate rfl rfl rfl (by decide +kernel) ⟨(Nat.le_of_ble_eq_true rfl), (Nat.le_of_ble_eq_true rfl)⟩) ⟨tp_blind, va_recv hK hP (ci := 3) (q0 := 1) rfl rfl, fun U hU hW => ⟨rfl, mp_at hZ hS hPc hK hDc hFc hU hW (Or.inr rfl), by rw [hU]; exact px_at hT hS hW hFc⟩⟩ rfl rfl hl.1 rfl (lv_room (Nat.le_of_ble_eq_true rfl)) dL_setRate_4 ⟨(Nat.le_of_ble_eq_true rfl), (Nat.le_of_ble_eq_true rfl)⟩) hS hFc (fun E ce q9 H1 locs1 hE hz9 hk9 hS9 hc9 hv9 hl9 => ?_) (fun u z1 H1 locs1 hu hP1 hD1 hz1 hk1 hS1 => ?_)
  · have hP9 : va_P D vwCl (eU cJ qo f :: DW cI cO qk z g) H1 := hP.kept (fun k q hq => hk9 q.1 (hP k q hq).lt)
    have hm := hE0 E hE
    simp only [List.mem_cons, List.not_mem_nil, or_false] at hm
    subst hm
    refine vx_catch hown [] ⟨0, 9, 12, 13⟩ [] (by rw [hte]; rfl) (fun z hz => nomatch hz) (by decide) (by decide) (hts (.classLink RL 13 "java/lang/IllegalArgumentException") (by decide +kernel)) (va_Nw.use rfl (hT.2.2.2 (.castable "java/lang/IllegalArgumentException" "java/lang/IllegalArgumentException") (by decide))) hc9 hv9 hl9 ?_
    refine lv_astore_n (lv' := [(3, .ref q9), (0, .ref qk), (1, .int a0), (2, .ref qo)]) hx hb dL_setRate_12 rfl hl (by decide) rfl (fun ls hl => ?_)
    refine lv_iconst (v := 1) hx hb dL_setRate_13 (by decide) ?_
    refine vx_ret ?_
    refine W.widen (k := 1) (n := 6) (Nat.le_of_ble_eq_true rfl) (Nat.le_of_ble_eq_true rfl) ?_
    have e9 : kR ["java/lang/IllegalArgumentException"] R = 1 := by rw [hE]; decide
    exact W.iret hx hb hr (fun t ht hW => ⟨z, f, by rw [e9], fun u h => (by rw [hE] at h; cases h), by rw [hE, ht]; exact hP9, by rw [hE]; exact hD, hS9.F ht⟩) hS9.2.2 dL_setRate_14
  · obtain ⟨hP, hD⟩ := wjc hP hD hA hP1 hD1 hk1
    refine lv_i2l hx hb dL_setRate_7 rfl ?_
    refine va_last hx hb hK hP hD hS1 0 1 rfl rfl in01 dL_setRate_8 (fun H locs hP hD hS => ?_)
    refine lv_goto (tgt := 15) hx hb dL_setRate_9 (by decide) ?_
    refine lv_iconst (v := 0) hx hb dL_setRate_15 (by decide) ?_
    refine vx_ret ?_
    refine W.widen (k := 1) (n := 6) (Nat.le_of_ble_eq_true rfl) (Nat.le_of_ble_eq_true rfl) ?_
    exact W.iret hx hb hr (fun t ht hW => ⟨z1, vp_updL f (0 : Int32).toNatClampNeg (u.1.toInt64), by rw [hu]; rfl, fun u1 h => (by rw [hu] at h; cases h; rfl), by rw [hu, ht]; exact hP, by rw [hu]; exact hD, hS.F ht⟩) hS.2.2 dL_setRate_16
set_option maxHeartbeats 4000000 in
set_option maxRecDepth 100000 in
theorem h_bond (l : Launch) (D : va_G) (cI cJ cO : ClassId) (ah qk qo : Nat) (f : Nat → Int64) (z : AZ) (g : SG) (sz N : Nat) (a0 : Int32) (a1 : Int32) (R : (Int32 × SG) ⊕ String) (hl0 : l.stackTraces = false) (hk : k_bond N g a0 a1 = some R) (hE0 : ∀ E, R = .inr E → E ∈ ["java/lang/IndexOutOfBoundsException"]) : Met l yL_bond wsL_bond ({ frames := 8, cells := 2, slots := 12, locals := 127 }) (va_Pc [.ref qk, .int a0, .int a1, .ref qo] (hP0 D (ty3 cI cJ cO) (some ah) (eU cJ qo f :: DW cI cO qk z g) sz)) (HQ D cI cJ cO qk qo (va_A (eU cJ qo f :: DW cI cO qk z g) sz) ["java/lang/IndexOutOfBoundsException"] Int32.toInt64 g R) 2 12 (va_A (eU cJ qo f :: DW cI cO qk z g) sz) := by
  refine met_of_vx (vx_ofWH (hh := [(0, 10, 13, 35)]) (cc := cL_bond) (maxL := 5) (ret := (some .int)) (by decide) rfl ?_)
  intro p e s m args below meth c s₁ Bd hml hv
  obtain ⟨rfl, ⟨⟨hsz, hZ, hP, hK, hD0⟩, hT⟩, hn1, hn2, hn3⟩ := hv
  have hx := Bd.exec
  have hb := Bd.bytes
  have hr := Bd.returns
  have hts := atoms_spec (ws := wsL_bond) Bd.pre
  have hown : s.vm.findClass RL = some m.cls := findClass_of_methodNamed Bd.named
  have hte : c.exceptionTable.toList = [⟨0, 10, 13, 35⟩] := vx_table (x := yL_bond) Bd (hts (.codeWith yL_bond cL_bond 5 (some .int) [(0, 10, 13, 35)]) List.mem_cons_self)
  subst hsz
  have hD := hD0.self (sz := s.heap.size)
  generalize hAe : va_A (eU cJ qo f :: DW cI cO qk z g) s.heap.size = A at hD hZ hT ⊢
  have hA : ∀ q : Nat, s.heap.size ≤ q → A q := fun q h => by rw [← hAe]; exact Or.inr h
  have hS : va_S A s.heap s.heap [] := va_S.rf
  have hl := lv_entry ([.ref qk, .int a0, .int a1, .ref qo]) (n := 5) (Nat.le_of_ble_eq_true rfl)
  rw [lg_entry_eq]
  generalize (lg_sl ([.ref qk, .int a0, .int a1, .ref qo]) ++ List.replicate (5 - (lg_sl ([.ref qk, .int a0, .int a1, .ref qo])).length) Slot.unset).toArray = ls at hl ⊢
  have hl : lv_has ls 5 [(0, .ref qk), (1, .int a0), (2, .int a1), (3, .ref qo)] := hl
  refine lv_aload_n hx hb dL_bond_0 rfl (lv_at hl 3 rfl) ?_
  refine lv_iconst (v := 0) hx hb dL_bond_1 (by decide) ?_
  refine lv_aload_n hx hb dL_bond_2 rfl (lv_at hl 0 rfl) ?_
  refine lv_iload_n hx hb dL_bond_3 rfl (lv_at hl 1 rfl) ?_
  refine lv_iload_n hx hb dL_bond_4 rfl (lv_at hl 2 rfl) ?_
  have hPc := wp_tail hP
  have hDc := wd_tail hD
  have hFc : ∀ q, va_A (DW cI cO qk z g) s.heap.size q → A q := va_A_of hDc hS hA
  refine xU (vx_runV (As := [.int a0, .int a1]) (rest := [.int 0, .ref qo]) ⟨hx, hb, hml, hown, hts⟩ (u_bond l D cI cJ cO ah qk z g s.heap.size N a0 a1 R hl0 hk) (cwV 2 hts gL_bond_X4_bond rfl rfl rfl (by decide +kernel) ⟨(Nat.le_of_ble_eq_true rfl), (Nat.le_of_ble_eq_true rfl)⟩) ⟨tp_blind, va_recv hK hP (ci := 3) (q0 := 1) rfl rfl, fun U hU hW => ⟨rfl, mp_at hZ hS hPc hK hDc hFc hU hW (Or.inr rfl), by rw [hU]; exact px_at hT hS hW hFc⟩⟩ rfl rfl hl.1 rfl (lv_room (Nat.le_of_ble_eq_true rfl)) dL_bond_5 ⟨(Nat.le_of_ble_eq_true rfl), (Nat.le_of_ble_eq_true rfl)⟩) hS hFc (fun E ce q9 H1 locs1 hE hz9 hk9 hS9 hc9 hv9 hl9 => ?_) (fun u z1 H1 locs1 hu hP1 hD1 hz1 hk1 hS1 => ?_)
  · have hP9 : va_P D vwCl (eU cJ qo f :: DW cI cO qk z g) H1 := hP.kept (fun k q hq => hk9 q.1 (hP k q hq).lt)
    have hm := hE0 E hE
    simp only [List.mem_cons, List.not_mem_nil, or_false] at hm
    subst hm
    refine vx_catch hown [] ⟨0, 10, 13, 35⟩ [] (by rw [hte]; rfl) (fun z hz => nomatch hz) (by decide) (by decide) (hts (.classLink RL 35 "java/lang/IndexOutOfBoundsException") (by decide +kernel)) (va_Nw.use rfl (hT.2.2.2 (.castable "java/lang/IndexOutOfBoundsException" "java/lang/IndexOutOfBoundsException") (by decide))) hc9 hv9 hl9 ?_
    refine lv_astore (lv' := [(4, .ref q9), (0, .ref qk), (1, .int a0), (2, .int a1), (3, .ref qo)]) hx hb dL_bond_13 hl (by decide) rfl (fun ls hl => ?_)
    refine lv_iconst (v := 1) hx hb dL_bond_15 (by decide) ?_
    refine vx_ret ?_
    refine W.widen (k := 2) (n := 12) (Nat.le_of_ble_eq_true rfl) (Nat.le_of_ble_eq_true rfl) ?_
    have e9 : kR ["java/lang/IndexOutOfBoundsException"] R = 1 := by rw [hE]; decide
    exact W.iret hx hb hr (fun t ht hW => ⟨z, f, by rw [e9], fun u h => (by rw [hE] at h; cases h), by rw [hE, ht]; exact hP9, by rw [hE]; exact hD, hS9.F ht⟩) hS9.2.2 dL_bond_16
  · obtain ⟨hP, hD⟩ := wjc hP hD hA hP1 hD1 hk1
    refine lv_i2l hx hb dL_bond_8 rfl ?_
    refine va_last hx hb hK hP hD hS1 0 1 rfl rfl in01 dL_bond_9 (fun H locs hP hD hS => ?_)
    refine lv_goto (tgt := 17) hx hb dL_bond_10 (by decide) ?_
    refine lv_iconst (v := 0) hx hb dL_bond_17 (by decide) ?_
    refine vx_ret ?_
    refine W.widen (k := 2) (n := 12) (Nat.le_of_ble_eq_true rfl) (Nat.le_of_ble_eq_true rfl) ?_
    exact W.iret hx hb hr (fun t ht hW => ⟨z1, vp_updL f (0 : Int32).toNatClampNeg (u.1.toInt64), by rw [hu]; rfl, fun u1 h => (by rw [hu] at h; cases h; rfl), by rw [hu, ht]; exact hP, by rw [hu]; exact hD, hS.F ht⟩) hS.2.2 dL_bond_18
set_option maxHeartbeats 4000000 in
set_option maxRecDepth 100000 in
theorem h_coupon (l : Launch) (D : va_G) (cI cJ cO : ClassId) (ah qk qo : Nat) (f : Nat → Int64) (z : AZ) (g : SG) (sz N : Nat) (a0 : Int32) (a1 : Int32) (a2 : Int32) (R : (Int32 × SG) ⊕ String) (hl0 : l.stackTraces = false) (hk : k_coupon N g a0 a1 a2 = some R) (hE0 : ∀ E, R = .inr E → E ∈ ["java/lang/IndexOutOfBoundsException"]) : Met l yL_coupon wsL_coupon ({ frames := 8, cells := 2, slots := 12, locals := 128 }) (va_Pc [.ref qk, .int a0, .int a1, .int a2, .ref qo] (hP0 D (ty3 cI cJ cO) (some ah) (eU cJ qo f :: DW cI cO qk z g) sz)) (HQ D cI cJ cO qk qo (va_A (eU cJ qo f :: DW cI cO qk z g) sz) ["java/lang/IndexOutOfBoundsException"] Int32.toInt64 g R) 2 12 (va_A (eU cJ qo f :: DW cI cO qk z g) sz) := by
  refine met_of_vx (vx_ofWH (hh := [(0, 12, 15, 35)]) (cc := cL_coupon) (maxL := 6) (ret := (some .int)) (by decide) rfl ?_)
  intro p e s m args below meth c s₁ Bd hml hv
  obtain ⟨rfl, ⟨⟨hsz, hZ, hP, hK, hD0⟩, hT⟩, hn1, hn2, hn3⟩ := hv
  have hx := Bd.exec
  have hb := Bd.bytes
  have hr := Bd.returns
  have hts := atoms_spec (ws := wsL_coupon) Bd.pre
  have hown : s.vm.findClass RL = some m.cls := findClass_of_methodNamed Bd.named
  have hte : c.exceptionTable.toList = [⟨0, 12, 15, 35⟩] := vx_table (x := yL_coupon) Bd (hts (.codeWith yL_coupon cL_coupon 6 (some .int) [(0, 12, 15, 35)]) List.mem_cons_self)
  subst hsz
  have hD := hD0.self (sz := s.heap.size)
  generalize hAe : va_A (eU cJ qo f :: DW cI cO qk z g) s.heap.size = A at hD hZ hT ⊢
  have hA : ∀ q : Nat, s.heap.size ≤ q → A q := fun q h => by rw [← hAe]; exact Or.inr h
  have hS : va_S A s.heap s.heap [] := va_S.rf
  have hl := lv_entry ([.ref qk, .int a0, .int a1, .int a2, .ref qo]) (n := 6) (Nat.le_of_ble_eq_true rfl)
  rw [lg_entry_eq]
  generalize (lg_sl ([.ref qk, .int a0, .int a1, .int a2, .ref qo]) ++ List.replicate (6 - (lg_sl ([.ref qk, .int a0, .int a1, .int a2, .ref qo])).length) Slot.unset).toArray = ls at hl ⊢
  have hl : lv_has ls 6 [(0, .ref qk), (1, .int a0), (2, .int a1), (3, .int a2), (4, .ref qo)] := hl
  refine lv_aload hx hb dL_coupon_0 (lv_at hl 4 rfl) ?_
  refine lv_iconst (v := 0) hx hb dL_coupon_2 (by decide) ?_
  refine lv_aload_n hx hb dL_coupon_3 rfl (lv_at hl 0 rfl) ?_
  refine lv_iload_n hx hb dL_coupon_4 rfl (lv_at hl 1 rfl) ?_
  refine lv_iload_n hx hb dL_coupon_5 rfl (lv_at hl 2 rfl) ?_
  refine lv_iload_n hx hb dL_coupon_6 rfl (lv_at hl 3 rfl) ?_
  have hPc := wp_tail hP
  have hDc := wd_tail hD
  have hFc : ∀ q, va_A (DW cI cO qk z g) s.heap.size q → A q := va_A_of hDc hS hA
  refine xU (vx_runV (As := [.int a0, .int a1, .int a2]) (rest := [.int 0, .ref qo]) ⟨hx, hb, hml, hown, hts⟩ (u_coupon l D cI cJ cO ah qk z g s.heap.size N a0 a1 a2 R hl0 hk) (cwV 3 hts gL_coupon_X4_coupon rfl rfl rfl (by decide +kernel) ⟨(Nat.le_of_ble_eq_true rfl), (Nat.le_of_ble_eq_true rfl)⟩) ⟨tp_blind, va_recv hK hP (ci := 3) (q0 := 1) rfl rfl, fun U hU hW => ⟨rfl, mp_at hZ hS hPc hK hDc hFc hU hW (Or.inr rfl), by rw [hU]; exact px_at hT hS hW hFc⟩⟩ rfl rfl hl.1 rfl (lv_room (Nat.le_of_ble_eq_true rfl)) dL_coupon_7 ⟨(Nat.le_of_ble_eq_true rfl), (Nat.le_of_ble_eq_true rfl)⟩) hS hFc (fun E ce q9 H1 locs1 hE hz9 hk9 hS9 hc9 hv9 hl9 => ?_) (fun u z1 H1 locs1 hu hP1 hD1 hz1 hk1 hS1 => ?_)
  · have hP9 : va_P D vwCl (eU cJ qo f :: DW cI cO qk z g) H1 := hP.kept (fun k q hq => hk9 q.1 (hP k q hq).lt)
    have hm := hE0 E hE
    simp only [List.mem_cons, List.not_mem_nil, or_false] at hm
    subst hm
    refine vx_catch hown [] ⟨0, 12, 15, 35⟩ [] (by rw [hte]; rfl) (fun z hz => nomatch hz) (by decide) (by decide) (hts (.classLink RL 35 "java/lang/IndexOutOfBoundsException") (by decide +kernel)) (va_Nw.use rfl (hT.2.2.2 (.castable "java/lang/IndexOutOfBoundsException" "java/lang/IndexOutOfBoundsException") (by decide))) hc9 hv9 hl9 ?_
    refine lv_astore (lv' := [(5, .ref q9), (0, .ref qk), (1, .int a0), (2, .int a1), (3, .int a2), (4, .ref qo)]) hx hb dL_coupon_15 hl (by decide) rfl (fun ls hl => ?_)
    refine lv_iconst (v := 1) hx hb dL_coupon_17 (by decide) ?_
    refine vx_ret ?_
    refine W.widen (k := 2) (n := 12) (Nat.le_of_ble_eq_true rfl) (Nat.le_of_ble_eq_true rfl) ?_
    have e9 : kR ["java/lang/IndexOutOfBoundsException"] R = 1 := by rw [hE]; decide
    exact W.iret hx hb hr (fun t ht hW => ⟨z, f, by rw [e9], fun u h => (by rw [hE] at h; cases h), by rw [hE, ht]; exact hP9, by rw [hE]; exact hD, hS9.F ht⟩) hS9.2.2 dL_coupon_18
  · obtain ⟨hP, hD⟩ := wjc hP hD hA hP1 hD1 hk1
    refine lv_i2l hx hb dL_coupon_10 rfl ?_
    refine va_last hx hb hK hP hD hS1 0 1 rfl rfl in01 dL_coupon_11 (fun H locs hP hD hS => ?_)
    refine lv_goto (tgt := 19) hx hb dL_coupon_12 (by decide) ?_
    refine lv_iconst (v := 0) hx hb dL_coupon_19 (by decide) ?_
    refine vx_ret ?_
    refine W.widen (k := 2) (n := 12) (Nat.le_of_ble_eq_true rfl) (Nat.le_of_ble_eq_true rfl) ?_
    exact W.iret hx hb hr (fun t ht hW => ⟨z1, vp_updL f (0 : Int32).toNatClampNeg (u.1.toInt64), by rw [hu]; rfl, fun u1 h => (by rw [hu] at h; cases h; rfl), by rw [hu, ht]; exact hP, by rw [hu]; exact hD, hS.F ht⟩) hS.2.2 dL_coupon_20
set_option maxHeartbeats 4000000 in
set_option maxRecDepth 100000 in
theorem h_accrued (l : Launch) (D : va_G) (cI cJ cO : ClassId) (ah qk qo : Nat) (f : Nat → Int64) (z : AZ) (g : SG) (sz N : Nat) (a0 : Int32) (a1 : Int32) (R : (Int32 × SG) ⊕ String) (hl0 : l.stackTraces = false) (hk : k_accrued N g a0 a1 = some R) (hE0 : ∀ E, R = .inr E → E ∈ ["java/lang/IndexOutOfBoundsException", "java/lang/IllegalArgumentException"]) : Met l yL_accrued wsL_accrued ({ frames := 8, cells := 2, slots := 12, locals := 137 }) (va_Pc [.ref qk, .int a0, .int a1, .ref qo] (hP0 D (ty3 cI cJ cO) (some ah) (eU cJ qo f :: DW cI cO qk z g) sz)) (HQ D cI cJ cO qk qo (va_A (eU cJ qo f :: DW cI cO qk z g) sz) ["java/lang/IndexOutOfBoundsException", "java/lang/IllegalArgumentException"] Int32.toInt64 g R) 2 12 (va_A (eU cJ qo f :: DW cI cO qk z g) sz) := by
  refine met_of_vx (vx_ofWH (hh := [(0, 10, 13, 35), (0, 10, 17, 13)]) (cc := cL_accrued) (maxL := 5) (ret := (some .int)) (by decide) rfl ?_)
  intro p e s m args below meth c s₁ Bd hml hv
  obtain ⟨rfl, ⟨⟨hsz, hZ, hP, hK, hD0⟩, hT⟩, hn1, hn2, hn3⟩ := hv
  have hx := Bd.exec
  have hb := Bd.bytes
  have hr := Bd.returns
  have hts := atoms_spec (ws := wsL_accrued) Bd.pre
  have hown : s.vm.findClass RL = some m.cls := findClass_of_methodNamed Bd.named
  have hte : c.exceptionTable.toList = [⟨0, 10, 13, 35⟩, ⟨0, 10, 17, 13⟩] := vx_table (x := yL_accrued) Bd (hts (.codeWith yL_accrued cL_accrued 5 (some .int) [(0, 10, 13, 35), (0, 10, 17, 13)]) List.mem_cons_self)
  subst hsz
  have hD := hD0.self (sz := s.heap.size)
  generalize hAe : va_A (eU cJ qo f :: DW cI cO qk z g) s.heap.size = A at hD hZ hT ⊢
  have hA : ∀ q : Nat, s.heap.size ≤ q → A q := fun q h => by rw [← hAe]; exact Or.inr h
  have hS : va_S A s.heap s.heap [] := va_S.rf
  have hl := lv_entry ([.ref qk, .int a0, .int a1, .ref qo]) (n := 5) (Nat.le_of_ble_eq_true rfl)
  rw [lg_entry_eq]
  generalize (lg_sl ([.ref qk, .int a0, .int a1, .ref qo]) ++ List.replicate (5 - (lg_sl ([.ref qk, .int a0, .int a1, .ref qo])).length) Slot.unset).toArray = ls at hl ⊢
  have hl : lv_has ls 5 [(0, .ref qk), (1, .int a0), (2, .int a1), (3, .ref qo)] := hl
  refine lv_aload_n hx hb dL_accrued_0 rfl (lv_at hl 3 rfl) ?_
  refine lv_iconst (v := 0) hx hb dL_accrued_1 (by decide) ?_
  refine lv_aload_n hx hb dL_accrued_2 rfl (lv_at hl 0 rfl) ?_
  refine lv_iload_n hx hb dL_accrued_3 rfl (lv_at hl 1 rfl) ?_
  refine lv_iload_n hx hb dL_accrued_4 rfl (lv_at hl 2 rfl) ?_
  have hPc := wp_tail hP
  have hDc := wd_tail hD
  have hFc : ∀ q, va_A (DW cI cO qk z g) s.heap.size q → A q := va_A_of hDc hS hA
  refine xU (vx_runV (As := [.int a0, .int a1]) (rest := [.int 0, .ref qo]) ⟨hx, hb, hml, hown, hts⟩ (u_accrued l D cI cJ cO ah qk z g s.heap.size N a0 a1 R hl0 hk) (cwV 2 hts gL_accrued_X4_accrued rfl rfl rfl (by decide +kernel) ⟨(Nat.le_of_ble_eq_true rfl), (Nat.le_of_ble_eq_true rfl)⟩) ⟨tp_blind, va_recv hK hP (ci := 3) (q0 := 1) rfl rfl, fun U hU hW => ⟨rfl, mp_at hZ hS hPc hK hDc hFc hU hW (Or.inr rfl), by rw [hU]; exact px_at hT hS hW hFc⟩⟩ rfl rfl hl.1 rfl (lv_room (Nat.le_of_ble_eq_true rfl)) dL_accrued_5 ⟨(Nat.le_of_ble_eq_true rfl), (Nat.le_of_ble_eq_true rfl)⟩) hS hFc (fun E ce q9 H1 locs1 hE hz9 hk9 hS9 hc9 hv9 hl9 => ?_) (fun u z1 H1 locs1 hu hP1 hD1 hz1 hk1 hS1 => ?_)
  · have hP9 : va_P D vwCl (eU cJ qo f :: DW cI cO qk z g) H1 := hP.kept (fun k q hq => hk9 q.1 (hP k q hq).lt)
    have hm := hE0 E hE
    simp only [List.mem_cons, List.not_mem_nil, or_false] at hm
    rcases hm with rfl | rfl
    · refine vx_catch hown [] ⟨0, 10, 13, 35⟩ [⟨0, 10, 17, 13⟩] (by rw [hte]; rfl) (fun z hz => nomatch hz) (by decide) (by decide) (hts (.classLink RL 35 "java/lang/IndexOutOfBoundsException") (by decide +kernel)) (va_Nw.use rfl (hT.2.2.2 (.castable "java/lang/IndexOutOfBoundsException" "java/lang/IndexOutOfBoundsException") (by decide))) hc9 hv9 hl9 ?_
      refine lv_astore (lv' := [(4, .ref q9), (0, .ref qk), (1, .int a0), (2, .int a1), (3, .ref qo)]) hx hb dL_accrued_13 hl (by decide) rfl (fun ls hl => ?_)
      refine lv_iconst (v := 1) hx hb dL_accrued_15 (by decide) ?_
      refine vx_ret ?_
      refine W.widen (k := 2) (n := 12) (Nat.le_of_ble_eq_true rfl) (Nat.le_of_ble_eq_true rfl) ?_
      have e9 : kR ["java/lang/IndexOutOfBoundsException", "java/lang/IllegalArgumentException"] R = 1 := by rw [hE]; decide
      exact W.iret hx hb hr (fun t ht hW => ⟨z, f, by rw [e9], fun u h => (by rw [hE] at h; cases h), by rw [hE, ht]; exact hP9, by rw [hE]; exact hD, hS9.F ht⟩) hS9.2.2 dL_accrued_16
    · refine vx_catch hown [⟨0, 10, 13, 35⟩] ⟨0, 10, 17, 13⟩ [] (by rw [hte]; rfl) (fun z hz => by rw [List.mem_singleton.mp hz]; exact Or.inr ⟨by decide, _, hts (.classLink RL 35 "java/lang/IndexOutOfBoundsException") (by decide +kernel), hn1⟩) (by decide) (by decide) (hts (.classLink RL 13 "java/lang/IllegalArgumentException") (by decide +kernel)) (va_Nw.use rfl (hT.2.2.2 (.castable "java/lang/IllegalArgumentException" "java/lang/IllegalArgumentException") (by decide))) hc9 hv9 hl9 ?_
      refine lv_astore (lv' := [(4, .ref q9), (0, .ref qk), (1, .int a0), (2, .int a1), (3, .ref qo)]) hx hb dL_accrued_17 hl (by decide) rfl (fun ls hl => ?_)
      refine lv_iconst (v := 2) hx hb dL_accrued_19 (by decide) ?_
      refine vx_ret ?_
      refine W.widen (k := 2) (n := 12) (Nat.le_of_ble_eq_true rfl) (Nat.le_of_ble_eq_true rfl) ?_
      have e9 : kR ["java/lang/IndexOutOfBoundsException", "java/lang/IllegalArgumentException"] R = 2 := by rw [hE]; decide
      exact W.iret hx hb hr (fun t ht hW => ⟨z, f, by rw [e9], fun u h => (by rw [hE] at h; cases h), by rw [hE, ht]; exact hP9, by rw [hE]; exact hD, hS9.F ht⟩) hS9.2.2 dL_accrued_20
  · obtain ⟨hP, hD⟩ := wjc hP hD hA hP1 hD1 hk1
    refine lv_i2l hx hb dL_accrued_8 rfl ?_
    refine va_last hx hb hK hP hD hS1 0 1 rfl rfl in01 dL_accrued_9 (fun H locs hP hD hS => ?_)
    refine lv_goto (tgt := 21) hx hb dL_accrued_10 (by decide) ?_
    refine lv_iconst (v := 0) hx hb dL_accrued_21 (by decide) ?_
    refine vx_ret ?_
    refine W.widen (k := 2) (n := 12) (Nat.le_of_ble_eq_true rfl) (Nat.le_of_ble_eq_true rfl) ?_
    exact W.iret hx hb hr (fun t ht hW => ⟨z1, vp_updL f (0 : Int32).toNatClampNeg (u.1.toInt64), by rw [hu]; rfl, fun u1 h => (by rw [hu] at h; cases h; rfl), by rw [hu, ht]; exact hP, by rw [hu]; exact hD, hS.F ht⟩) hS.2.2 dL_accrued_22
set_option maxHeartbeats 4000000 in
set_option maxRecDepth 100000 in
theorem h_worth (l : Launch) (D : va_G) (cI cJ cO : ClassId) (ah qk qo : Nat) (f : Nat → Int64) (z : AZ) (g : SG) (sz N : Nat) (a0 : Int32) (a1 : Int32) (R : (Int32 × SG) ⊕ String) (hl0 : l.stackTraces = false) (hk : k_worth N g a0 a1 = some R) (hE0 : ∀ E, R = .inr E → E ∈ ["java/lang/IndexOutOfBoundsException", "java/lang/IllegalArgumentException"]) : Met l yL_worth wsL_worth ({ frames := 8, cells := 2, slots := 12, locals := 127 }) (va_Pc [.ref qk, .int a0, .int a1, .ref qo] (hP0 D (ty3 cI cJ cO) (some ah) (eU cJ qo f :: DW cI cO qk z g) sz)) (HQ D cI cJ cO qk qo (va_A (eU cJ qo f :: DW cI cO qk z g) sz) ["java/lang/IndexOutOfBoundsException", "java/lang/IllegalArgumentException"] Int32.toInt64 g R) 2 12 (va_A (eU cJ qo f :: DW cI cO qk z g) sz) := by
  refine met_of_vx (vx_ofWH (hh := [(0, 10, 13, 35), (0, 10, 17, 13)]) (cc := cL_worth) (maxL := 5) (ret := (some .int)) (by decide) rfl ?_)
  intro p e s m args below meth c s₁ Bd hml hv
  obtain ⟨rfl, ⟨⟨hsz, hZ, hP, hK, hD0⟩, hT⟩, hn1, hn2, hn3⟩ := hv
  have hx := Bd.exec
  have hb := Bd.bytes
  have hr := Bd.returns
  have hts := atoms_spec (ws := wsL_worth) Bd.pre
  have hown : s.vm.findClass RL = some m.cls := findClass_of_methodNamed Bd.named
  have hte : c.exceptionTable.toList = [⟨0, 10, 13, 35⟩, ⟨0, 10, 17, 13⟩] := vx_table (x := yL_worth) Bd (hts (.codeWith yL_worth cL_worth 5 (some .int) [(0, 10, 13, 35), (0, 10, 17, 13)]) List.mem_cons_self)
  subst hsz
  have hD := hD0.self (sz := s.heap.size)
  generalize hAe : va_A (eU cJ qo f :: DW cI cO qk z g) s.heap.size = A at hD hZ hT ⊢
  have hA : ∀ q : Nat, s.heap.size ≤ q → A q := fun q h => by rw [← hAe]; exact Or.inr h
  have hS : va_S A s.heap s.heap [] := va_S.rf
  have hl := lv_entry ([.ref qk, .int a0, .int a1, .ref qo]) (n := 5) (Nat.le_of_ble_eq_true rfl)
  rw [lg_entry_eq]
  generalize (lg_sl ([.ref qk, .int a0, .int a1, .ref qo]) ++ List.replicate (5 - (lg_sl ([.ref qk, .int a0, .int a1, .ref qo])).length) Slot.unset).toArray = ls at hl ⊢
  have hl : lv_has ls 5 [(0, .ref qk), (1, .int a0), (2, .int a1), (3, .ref qo)] := hl
  refine lv_aload_n hx hb dL_worth_0 rfl (lv_at hl 3 rfl) ?_
  refine lv_iconst (v := 0) hx hb dL_worth_1 (by decide) ?_
  refine lv_aload_n hx hb dL_worth_2 rfl (lv_at hl 0 rfl) ?_
  refine lv_iload_n hx hb dL_worth_3 rfl (lv_at hl 1 rfl) ?_
  refine lv_iload_n hx hb dL_worth_4 rfl (lv_at hl 2 rfl) ?_
  have hPc := wp_tail hP
  have hDc := wd_tail hD
  have hFc : ∀ q, va_A (DW cI cO qk z g) s.heap.size q → A q := va_A_of hDc hS hA
  refine xU (vx_runV (As := [.int a0, .int a1]) (rest := [.int 0, .ref qo]) ⟨hx, hb, hml, hown, hts⟩ (u_worth l D cI cJ cO ah qk z g s.heap.size N a0 a1 R hl0 hk) (cwV 2 hts gL_worth_X4_worth rfl rfl rfl (by decide +kernel) ⟨(Nat.le_of_ble_eq_true rfl), (Nat.le_of_ble_eq_true rfl)⟩) ⟨tp_blind, va_recv hK hP (ci := 3) (q0 := 1) rfl rfl, fun U hU hW => ⟨rfl, mp_at hZ hS hPc hK hDc hFc hU hW (Or.inr rfl), by rw [hU]; exact px_at hT hS hW hFc⟩⟩ rfl rfl hl.1 rfl (lv_room (Nat.le_of_ble_eq_true rfl)) dL_worth_5 ⟨(Nat.le_of_ble_eq_true rfl), (Nat.le_of_ble_eq_true rfl)⟩) hS hFc (fun E ce q9 H1 locs1 hE hz9 hk9 hS9 hc9 hv9 hl9 => ?_) (fun u z1 H1 locs1 hu hP1 hD1 hz1 hk1 hS1 => ?_)
  · have hP9 : va_P D vwCl (eU cJ qo f :: DW cI cO qk z g) H1 := hP.kept (fun k q hq => hk9 q.1 (hP k q hq).lt)
    have hm := hE0 E hE
    simp only [List.mem_cons, List.not_mem_nil, or_false] at hm
    rcases hm with rfl | rfl
    · refine vx_catch hown [] ⟨0, 10, 13, 35⟩ [⟨0, 10, 17, 13⟩] (by rw [hte]; rfl) (fun z hz => nomatch hz) (by decide) (by decide) (hts (.classLink RL 35 "java/lang/IndexOutOfBoundsException") (by decide +kernel)) (va_Nw.use rfl (hT.2.2.2 (.castable "java/lang/IndexOutOfBoundsException" "java/lang/IndexOutOfBoundsException") (by decide))) hc9 hv9 hl9 ?_
      refine lv_astore (lv' := [(4, .ref q9), (0, .ref qk), (1, .int a0), (2, .int a1), (3, .ref qo)]) hx hb dL_worth_13 hl (by decide) rfl (fun ls hl => ?_)
      refine lv_iconst (v := 1) hx hb dL_worth_15 (by decide) ?_
      refine vx_ret ?_
      refine W.widen (k := 2) (n := 12) (Nat.le_of_ble_eq_true rfl) (Nat.le_of_ble_eq_true rfl) ?_
      have e9 : kR ["java/lang/IndexOutOfBoundsException", "java/lang/IllegalArgumentException"] R = 1 := by rw [hE]; decide
      exact W.iret hx hb hr (fun t ht hW => ⟨z, f, by rw [e9], fun u h => (by rw [hE] at h; cases h), by rw [hE, ht]; exact hP9, by rw [hE]; exact hD, hS9.F ht⟩) hS9.2.2 dL_worth_16
    · refine vx_catch hown [⟨0, 10, 13, 35⟩] ⟨0, 10, 17, 13⟩ [] (by rw [hte]; rfl) (fun z hz => by rw [List.mem_singleton.mp hz]; exact Or.inr ⟨by decide, _, hts (.classLink RL 35 "java/lang/IndexOutOfBoundsException") (by decide +kernel), hn1⟩) (by decide) (by decide) (hts (.classLink RL 13 "java/lang/IllegalArgumentException") (by decide +kernel)) (va_Nw.use rfl (hT.2.2.2 (.castable "java/lang/IllegalArgumentException" "java/lang/IllegalArgumentException") (by decide))) hc9 hv9 hl9 ?_
      refine lv_astore (lv' := [(4, .ref q9), (0, .ref qk), (1, .int a0), (2, .int a1), (3, .ref qo)]) hx hb dL_worth_17 hl (by decide) rfl (fun ls hl => ?_)
      refine lv_iconst (v := 2) hx hb dL_worth_19 (by decide) ?_
      refine vx_ret ?_
      refine W.widen (k := 2) (n := 12) (Nat.le_of_ble_eq_true rfl) (Nat.le_of_ble_eq_true rfl) ?_
      have e9 : kR ["java/lang/IndexOutOfBoundsException", "java/lang/IllegalArgumentException"] R = 2 := by rw [hE]; decide
      exact W.iret hx hb hr (fun t ht hW => ⟨z, f, by rw [e9], fun u h => (by rw [hE] at h; cases h), by rw [hE, ht]; exact hP9, by rw [hE]; exact hD, hS9.F ht⟩) hS9.2.2 dL_worth_20
  · obtain ⟨hP, hD⟩ := wjc hP hD hA hP1 hD1 hk1
    refine lv_i2l hx hb dL_worth_8 rfl ?_
    refine va_last hx hb hK hP hD hS1 0 1 rfl rfl in01 dL_worth_9 (fun H locs hP hD hS => ?_)
    refine lv_goto (tgt := 21) hx hb dL_worth_10 (by decide) ?_
    refine lv_iconst (v := 0) hx hb dL_worth_21 (by decide) ?_
    refine vx_ret ?_
    refine W.widen (k := 2) (n := 12) (Nat.le_of_ble_eq_true rfl) (Nat.le_of_ble_eq_true rfl) ?_
    exact W.iret hx hb hr (fun t ht hW => ⟨z1, vp_updL f (0 : Int32).toNatClampNeg (u.1.toInt64), by rw [hu]; rfl, fun u1 h => (by rw [hu] at h; cases h; rfl), by rw [hu, ht]; exact hP, by rw [hu]; exact hD, hS.F ht⟩) hS.2.2 dL_worth_22
set_option maxHeartbeats 4000000 in
set_option maxRecDepth 100000 in
theorem h_yields (l : Launch) (D : va_G) (cI cJ cO : ClassId) (ah qk qo : Nat) (f : Nat → Int64) (z : AZ) (g : SG) (sz N : Nat) (a0 : Int32) (a1 : Int32) (R : (Int32 × SG) ⊕ String) (hl0 : l.stackTraces = false) (hk : k_yields N g a0 a1 = some R) (hE0 : ∀ E, R = .inr E → E ∈ ["java/lang/IndexOutOfBoundsException", "java/lang/IllegalArgumentException"]) : Met l yL_yields wsL_yields ({ frames := 8, cells := 2, slots := 12, locals := 163 }) (va_Pc [.ref qk, .int a0, .int a1, .ref qo] (hP0 D (ty3 cI cJ cO) (some ah) (eU cJ qo f :: DW cI cO qk z g) sz)) (HQ D cI cJ cO qk qo (va_A (eU cJ qo f :: DW cI cO qk z g) sz) ["java/lang/IndexOutOfBoundsException", "java/lang/IllegalArgumentException"] Int32.toInt64 g R) 2 12 (va_A (eU cJ qo f :: DW cI cO qk z g) sz) := by
  refine met_of_vx (vx_ofWH (hh := [(0, 10, 13, 35), (0, 10, 17, 13)]) (cc := cL_yields) (maxL := 5) (ret := (some .int)) (by decide) rfl ?_)
  intro p e s m args below meth c s₁ Bd hml hv
  obtain ⟨rfl, ⟨⟨hsz, hZ, hP, hK, hD0⟩, hT⟩, hn1, hn2, hn3⟩ := hv
  have hx := Bd.exec
  have hb := Bd.bytes
  have hr := Bd.returns
  have hts := atoms_spec (ws := wsL_yields) Bd.pre
  have hown : s.vm.findClass RL = some m.cls := findClass_of_methodNamed Bd.named
  have hte : c.exceptionTable.toList = [⟨0, 10, 13, 35⟩, ⟨0, 10, 17, 13⟩] := vx_table (x := yL_yields) Bd (hts (.codeWith yL_yields cL_yields 5 (some .int) [(0, 10, 13, 35), (0, 10, 17, 13)]) List.mem_cons_self)
  subst hsz
  have hD := hD0.self (sz := s.heap.size)
  generalize hAe : va_A (eU cJ qo f :: DW cI cO qk z g) s.heap.size = A at hD hZ hT ⊢
  have hA : ∀ q : Nat, s.heap.size ≤ q → A q := fun q h => by rw [← hAe]; exact Or.inr h
  have hS : va_S A s.heap s.heap [] := va_S.rf
  have hl := lv_entry ([.ref qk, .int a0, .int a1, .ref qo]) (n := 5) (Nat.le_of_ble_eq_true rfl)
  rw [lg_entry_eq]
  generalize (lg_sl ([.ref qk, .int a0, .int a1, .ref qo]) ++ List.replicate (5 - (lg_sl ([.ref qk, .int a0, .int a1, .ref qo])).length) Slot.unset).toArray = ls at hl ⊢
  have hl : lv_has ls 5 [(0, .ref qk), (1, .int a0), (2, .int a1), (3, .ref qo)] := hl
  refine lv_aload_n hx hb dL_yields_0 rfl (lv_at hl 3 rfl) ?_
  refine lv_iconst (v := 0) hx hb dL_yields_1 (by decide) ?_
  refine lv_aload_n hx hb dL_yields_2 rfl (lv_at hl 0 rfl) ?_
  refine lv_iload_n hx hb dL_yields_3 rfl (lv_at hl 1 rfl) ?_
  refine lv_iload_n hx hb dL_yields_4 rfl (lv_at hl 2 rfl) ?_
  have hPc := wp_tail hP
  have hDc := wd_tail hD
  have hFc : ∀ q, va_A (DW cI cO qk z g) s.heap.size q → A q := va_A_of hDc hS hA
  refine xU (vx_runV (As := [.int a0, .int a1]) (rest := [.int 0, .ref qo]) ⟨hx, hb, hml, hown, hts⟩ (u_yields l D cI cJ cO ah qk z g s.heap.size N a0 a1 R hl0 hk) (cwV 2 hts gL_yields_X4_yields rfl rfl rfl (by decide +kernel) ⟨(Nat.le_of_ble_eq_true rfl), (Nat.le_of_ble_eq_true rfl)⟩) ⟨tp_blind, va_recv hK hP (ci := 3) (q0 := 1) rfl rfl, fun U hU hW => ⟨rfl, mp_at hZ hS hPc hK hDc hFc hU hW (Or.inr rfl), by rw [hU]; exact px_at hT hS hW hFc⟩⟩ rfl rfl hl.1 rfl (lv_room (Nat.le_of_ble_eq_true rfl)) dL_yields_5 ⟨(Nat.le_of_ble_eq_true rfl), (Nat.le_of_ble_eq_true rfl)⟩) hS hFc (fun E ce q9 H1 locs1 hE hz9 hk9 hS9 hc9 hv9 hl9 => ?_) (fun u z1 H1 locs1 hu hP1 hD1 hz1 hk1 hS1 => ?_)
  · have hP9 : va_P D vwCl (eU cJ qo f :: DW cI cO qk z g) H1 := hP.kept (fun k q hq => hk9 q.1 (hP k q hq).lt)
    have hm := hE0 E hE
    simp only [List.mem_cons, List.not_mem_nil, or_false] at hm
    rcases hm with rfl | rfl
    · refine vx_catch hown [] ⟨0, 10, 13, 35⟩ [⟨0, 10, 17, 13⟩] (by rw [hte]; rfl) (fun z hz => nomatch hz) (by decide) (by decide) (hts (.classLink RL 35 "java/lang/IndexOutOfBoundsException") (by decide +kernel)) (va_Nw.use rfl (hT.2.2.2 (.castable "java/lang/IndexOutOfBoundsException" "java/lang/IndexOutOfBoundsException") (by decide))) hc9 hv9 hl9 ?_
      refine lv_astore (lv' := [(4, .ref q9), (0, .ref qk), (1, .int a0), (2, .int a1), (3, .ref qo)]) hx hb dL_yields_13 hl (by decide) rfl (fun ls hl => ?_)
      refine lv_iconst (v := 1) hx hb dL_yields_15 (by decide) ?_
      refine vx_ret ?_
      refine W.widen (k := 2) (n := 12) (Nat.le_of_ble_eq_true rfl) (Nat.le_of_ble_eq_true rfl) ?_
      have e9 : kR ["java/lang/IndexOutOfBoundsException", "java/lang/IllegalArgumentException"] R = 1 := by rw [hE]; decide
      exact W.iret hx hb hr (fun t ht hW => ⟨z, f, by rw [e9], fun u h => (by rw [hE] at h; cases h), by rw [hE, ht]; exact hP9, by rw [hE]; exact hD, hS9.F ht⟩) hS9.2.2 dL_yields_16
    · refine vx_catch hown [⟨0, 10, 13, 35⟩] ⟨0, 10, 17, 13⟩ [] (by rw [hte]; rfl) (fun z hz => by rw [List.mem_singleton.mp hz]; exact Or.inr ⟨by decide, _, hts (.classLink RL 35 "java/lang/IndexOutOfBoundsException") (by decide +kernel), hn1⟩) (by decide) (by decide) (hts (.classLink RL 13 "java/lang/IllegalArgumentException") (by decide +kernel)) (va_Nw.use rfl (hT.2.2.2 (.castable "java/lang/IllegalArgumentException" "java/lang/IllegalArgumentException") (by decide))) hc9 hv9 hl9 ?_
      refine lv_astore (lv' := [(4, .ref q9), (0, .ref qk), (1, .int a0), (2, .int a1), (3, .ref qo)]) hx hb dL_yields_17 hl (by decide) rfl (fun ls hl => ?_)
      refine lv_iconst (v := 2) hx hb dL_yields_19 (by decide) ?_
      refine vx_ret ?_
      refine W.widen (k := 2) (n := 12) (Nat.le_of_ble_eq_true rfl) (Nat.le_of_ble_eq_true rfl) ?_
      have e9 : kR ["java/lang/IndexOutOfBoundsException", "java/lang/IllegalArgumentException"] R = 2 := by rw [hE]; decide
      exact W.iret hx hb hr (fun t ht hW => ⟨z, f, by rw [e9], fun u h => (by rw [hE] at h; cases h), by rw [hE, ht]; exact hP9, by rw [hE]; exact hD, hS9.F ht⟩) hS9.2.2 dL_yields_20
  · obtain ⟨hP, hD⟩ := wjc hP hD hA hP1 hD1 hk1
    refine lv_i2l hx hb dL_yields_8 rfl ?_
    refine va_last hx hb hK hP hD hS1 0 1 rfl rfl in01 dL_yields_9 (fun H locs hP hD hS => ?_)
    refine lv_goto (tgt := 21) hx hb dL_yields_10 (by decide) ?_
    refine lv_iconst (v := 0) hx hb dL_yields_21 (by decide) ?_
    refine vx_ret ?_
    refine W.widen (k := 2) (n := 12) (Nat.le_of_ble_eq_true rfl) (Nat.le_of_ble_eq_true rfl) ?_
    exact W.iret hx hb hr (fun t ht hW => ⟨z1, vp_updL f (0 : Int32).toNatClampNeg (u.1.toInt64), by rw [hu]; rfl, fun u1 h => (by rw [hu] at h; cases h; rfl), by rw [hu, ht]; exact hP, by rw [hu]; exact hD, hS.F ht⟩) hS.2.2 dL_yields_22
set_option maxHeartbeats 4000000 in
set_option maxRecDepth 100000 in
theorem h_moves (l : Launch) (D : va_G) (cI cJ cO : ClassId) (ah qk qo : Nat) (f : Nat → Int64) (z : AZ) (g : SG) (sz N : Nat) (a0 : Int32) (a1 : Int32) (R : (Int32 × SG) ⊕ String) (hl0 : l.stackTraces = false) (hk : k_moves N g a0 a1 = some R) (hE0 : ∀ E, R = .inr E → E ∈ ["java/lang/IndexOutOfBoundsException", "java/lang/IllegalArgumentException"]) : Met l yL_moves wsL_moves ({ frames := 8, cells := 2, slots := 12, locals := 127 }) (va_Pc [.ref qk, .int a0, .int a1, .ref qo] (hP0 D (ty3 cI cJ cO) (some ah) (eU cJ qo f :: DW cI cO qk z g) sz)) (HQ D cI cJ cO qk qo (va_A (eU cJ qo f :: DW cI cO qk z g) sz) ["java/lang/IndexOutOfBoundsException", "java/lang/IllegalArgumentException"] Int32.toInt64 g R) 2 12 (va_A (eU cJ qo f :: DW cI cO qk z g) sz) := by
  refine met_of_vx (vx_ofWH (hh := [(0, 10, 13, 35), (0, 10, 17, 13)]) (cc := cL_moves) (maxL := 5) (ret := (some .int)) (by decide) rfl ?_)
  intro p e s m args below meth c s₁ Bd hml hv
  obtain ⟨rfl, ⟨⟨hsz, hZ, hP, hK, hD0⟩, hT⟩, hn1, hn2, hn3⟩ := hv
  have hx := Bd.exec
  have hb := Bd.bytes
  have hr := Bd.returns
  have hts := atoms_spec (ws := wsL_moves) Bd.pre
  have hown : s.vm.findClass RL = some m.cls := findClass_of_methodNamed Bd.named
  have hte : c.exceptionTable.toList = [⟨0, 10, 13, 35⟩, ⟨0, 10, 17, 13⟩] := vx_table (x := yL_moves) Bd (hts (.codeWith yL_moves cL_moves 5 (some .int) [(0, 10, 13, 35), (0, 10, 17, 13)]) List.mem_cons_self)
  subst hsz
  have hD := hD0.self (sz := s.heap.size)
  generalize hAe : va_A (eU cJ qo f :: DW cI cO qk z g) s.heap.size = A at hD hZ hT ⊢
  have hA : ∀ q : Nat, s.heap.size ≤ q → A q := fun q h => by rw [← hAe]; exact Or.inr h
  have hS : va_S A s.heap s.heap [] := va_S.rf
  have hl := lv_entry ([.ref qk, .int a0, .int a1, .ref qo]) (n := 5) (Nat.le_of_ble_eq_true rfl)
  rw [lg_entry_eq]
  generalize (lg_sl ([.ref qk, .int a0, .int a1, .ref qo]) ++ List.replicate (5 - (lg_sl ([.ref qk, .int a0, .int a1, .ref qo])).length) Slot.unset).toArray = ls at hl ⊢
  have hl : lv_has ls 5 [(0, .ref qk), (1, .int a0), (2, .int a1), (3, .ref qo)] := hl
  refine lv_aload_n hx hb dL_moves_0 rfl (lv_at hl 3 rfl) ?_
  refine lv_iconst (v := 0) hx hb dL_moves_1 (by decide) ?_
  refine lv_aload_n hx hb dL_moves_2 rfl (lv_at hl 0 rfl) ?_
  refine lv_iload_n hx hb dL_moves_3 rfl (lv_at hl 1 rfl) ?_
  refine lv_iload_n hx hb dL_moves_4 rfl (lv_at hl 2 rfl) ?_
  have hPc := wp_tail hP
  have hDc := wd_tail hD
  have hFc : ∀ q, va_A (DW cI cO qk z g) s.heap.size q → A q := va_A_of hDc hS hA
  refine xU (vx_runV (As := [.int a0, .int a1]) (rest := [.int 0, .ref qo]) ⟨hx, hb, hml, hown, hts⟩ (u_moves l D cI cJ cO ah qk z g s.heap.size N a0 a1 R hl0 hk) (cwV 2 hts gL_moves_X4_moves rfl rfl rfl (by decide +kernel) ⟨(Nat.le_of_ble_eq_true rfl), (Nat.le_of_ble_eq_true rfl)⟩) ⟨tp_blind, va_recv hK hP (ci := 3) (q0 := 1) rfl rfl, fun U hU hW => ⟨rfl, mp_at hZ hS hPc hK hDc hFc hU hW (Or.inr rfl), by rw [hU]; exact px_at hT hS hW hFc⟩⟩ rfl rfl hl.1 rfl (lv_room (Nat.le_of_ble_eq_true rfl)) dL_moves_5 ⟨(Nat.le_of_ble_eq_true rfl), (Nat.le_of_ble_eq_true rfl)⟩) hS hFc (fun E ce q9 H1 locs1 hE hz9 hk9 hS9 hc9 hv9 hl9 => ?_) (fun u z1 H1 locs1 hu hP1 hD1 hz1 hk1 hS1 => ?_)
  · have hP9 : va_P D vwCl (eU cJ qo f :: DW cI cO qk z g) H1 := hP.kept (fun k q hq => hk9 q.1 (hP k q hq).lt)
    have hm := hE0 E hE
    simp only [List.mem_cons, List.not_mem_nil, or_false] at hm
    rcases hm with rfl | rfl
    · refine vx_catch hown [] ⟨0, 10, 13, 35⟩ [⟨0, 10, 17, 13⟩] (by rw [hte]; rfl) (fun z hz => nomatch hz) (by decide) (by decide) (hts (.classLink RL 35 "java/lang/IndexOutOfBoundsException") (by decide +kernel)) (va_Nw.use rfl (hT.2.2.2 (.castable "java/lang/IndexOutOfBoundsException" "java/lang/IndexOutOfBoundsException") (by decide))) hc9 hv9 hl9 ?_
      refine lv_astore (lv' := [(4, .ref q9), (0, .ref qk), (1, .int a0), (2, .int a1), (3, .ref qo)]) hx hb dL_moves_13 hl (by decide) rfl (fun ls hl => ?_)
      refine lv_iconst (v := 1) hx hb dL_moves_15 (by decide) ?_
      refine vx_ret ?_
      refine W.widen (k := 2) (n := 12) (Nat.le_of_ble_eq_true rfl) (Nat.le_of_ble_eq_true rfl) ?_
      have e9 : kR ["java/lang/IndexOutOfBoundsException", "java/lang/IllegalArgumentException"] R = 1 := by rw [hE]; decide
      exact W.iret hx hb hr (fun t ht hW => ⟨z, f, by rw [e9], fun u h => (by rw [hE] at h; cases h), by rw [hE, ht]; exact hP9, by rw [hE]; exact hD, hS9.F ht⟩) hS9.2.2 dL_moves_16
    · refine vx_catch hown [⟨0, 10, 13, 35⟩] ⟨0, 10, 17, 13⟩ [] (by rw [hte]; rfl) (fun z hz => by rw [List.mem_singleton.mp hz]; exact Or.inr ⟨by decide, _, hts (.classLink RL 35 "java/lang/IndexOutOfBoundsException") (by decide +kernel), hn1⟩) (by decide) (by decide) (hts (.classLink RL 13 "java/lang/IllegalArgumentException") (by decide +kernel)) (va_Nw.use rfl (hT.2.2.2 (.castable "java/lang/IllegalArgumentException" "java/lang/IllegalArgumentException") (by decide))) hc9 hv9 hl9 ?_
      refine lv_astore (lv' := [(4, .ref q9), (0, .ref qk), (1, .int a0), (2, .int a1), (3, .ref qo)]) hx hb dL_moves_17 hl (by decide) rfl (fun ls hl => ?_)
      refine lv_iconst (v := 2) hx hb dL_moves_19 (by decide) ?_
      refine vx_ret ?_
      refine W.widen (k := 2) (n := 12) (Nat.le_of_ble_eq_true rfl) (Nat.le_of_ble_eq_true rfl) ?_
      have e9 : kR ["java/lang/IndexOutOfBoundsException", "java/lang/IllegalArgumentException"] R = 2 := by rw [hE]; decide
      exact W.iret hx hb hr (fun t ht hW => ⟨z, f, by rw [e9], fun u h => (by rw [hE] at h; cases h), by rw [hE, ht]; exact hP9, by rw [hE]; exact hD, hS9.F ht⟩) hS9.2.2 dL_moves_20
  · obtain ⟨hP, hD⟩ := wjc hP hD hA hP1 hD1 hk1
    refine lv_i2l hx hb dL_moves_8 rfl ?_
    refine va_last hx hb hK hP hD hS1 0 1 rfl rfl in01 dL_moves_9 (fun H locs hP hD hS => ?_)
    refine lv_goto (tgt := 21) hx hb dL_moves_10 (by decide) ?_
    refine lv_iconst (v := 0) hx hb dL_moves_21 (by decide) ?_
    refine vx_ret ?_
    refine W.widen (k := 2) (n := 12) (Nat.le_of_ble_eq_true rfl) (Nat.le_of_ble_eq_true rfl) ?_
    exact W.iret hx hb hr (fun t ht hW => ⟨z1, vp_updL f (0 : Int32).toNatClampNeg (u.1.toInt64), by rw [hu]; rfl, fun u1 h => (by rw [hu] at h; cases h; rfl), by rw [hu, ht]; exact hP, by rw [hu]; exact hD, hS.F ht⟩) hS.2.2 dL_moves_22
set_option maxHeartbeats 4000000 in
set_option maxRecDepth 100000 in
theorem h_callsAt (l : Launch) (D : va_G) (cI cJ cO : ClassId) (ah qk qo : Nat) (f : Nat → Int64) (z : AZ) (g : SG) (sz N : Nat) (a0 : Int32) (R : (Int32 × SG) ⊕ String) (hl0 : l.stackTraces = false) (hk : k_callsAt N g a0 = some R) (hE0 : ∀ E, R = .inr E → E ∈ ["java/lang/IndexOutOfBoundsException"]) : Met l yL_callsAt wsL_callsAt ({ frames := 8, cells := 1, slots := 6, locals := 161 }) (va_Pc [.ref qk, .int a0, .ref qo] (hP0 D (ty3 cI cJ cO) (some ah) (eU cJ qo f :: DW cI cO qk z g) sz)) (HQ D cI cJ cO qk qo (va_A (eU cJ qo f :: DW cI cO qk z g) sz) ["java/lang/IndexOutOfBoundsException"] Int32.toInt64 g R) 1 6 (va_A (eU cJ qo f :: DW cI cO qk z g) sz) := by
  refine met_of_vx (vx_ofWH (hh := [(0, 9, 12, 35)]) (cc := cL_callsAt) (maxL := 4) (ret := (some .int)) (by decide) rfl ?_)
  intro p e s m args below meth c s₁ Bd hml hv
  obtain ⟨rfl, ⟨⟨hsz, hZ, hP, hK, hD0⟩, hT⟩, hn1, hn2, hn3⟩ := hv
  have hx := Bd.exec
  have hb := Bd.bytes
  have hr := Bd.returns
  have hts := atoms_spec (ws := wsL_callsAt) Bd.pre
  have hown : s.vm.findClass RL = some m.cls := findClass_of_methodNamed Bd.named
  have hte : c.exceptionTable.toList = [⟨0, 9, 12, 35⟩] := vx_table (x := yL_callsAt) Bd (hts (.codeWith yL_callsAt cL_callsAt 4 (some .int) [(0, 9, 12, 35)]) List.mem_cons_self)
  subst hsz
  have hD := hD0.self (sz := s.heap.size)
  generalize hAe : va_A (eU cJ qo f :: DW cI cO qk z g) s.heap.size = A at hD hZ hT ⊢
  have hA : ∀ q : Nat, s.heap.size ≤ q → A q := fun q h => by rw [← hAe]; exact Or.inr h
  have hS : va_S A s.heap s.heap [] := va_S.rf
  have hl := lv_entry ([.ref qk, .int a0, .ref qo]) (n := 4) (Nat.le_of_ble_eq_true rfl)
  rw [lg_entry_eq]
  generalize (lg_sl ([.ref qk, .int a0, .ref qo]) ++ List.replicate (4 - (lg_sl ([.ref qk, .int a0, .ref qo])).length) Slot.unset).toArray = ls at hl ⊢
  have hl : lv_has ls 4 [(0, .ref qk), (1, .int a0), (2, .ref qo)] := hl
  refine lv_aload_n hx hb dL_callsAt_0 rfl (lv_at hl 2 rfl) ?_
  refine lv_iconst (v := 0) hx hb dL_callsAt_1 (by decide) ?_
  refine lv_aload_n hx hb dL_callsAt_2 rfl (lv_at hl 0 rfl) ?_
  refine lv_iload_n hx hb dL_callsAt_3 rfl (lv_at hl 1 rfl) ?_
  have hPc := wp_tail hP
  have hDc := wd_tail hD
  have hFc : ∀ q, va_A (DW cI cO qk z g) s.heap.size q → A q := va_A_of hDc hS hA
  refine xU (vx_runV (As := [.int a0]) (rest := [.int 0, .ref qo]) ⟨hx, hb, hml, hown, hts⟩ (u_callsAt l D cI cJ cO ah qk z g s.heap.size N a0 R hl0 hk) (cwV 1 hts gL_callsAt_X4_callsAt rfl rfl rfl (by decide +kernel) ⟨(Nat.le_of_ble_eq_true rfl), (Nat.le_of_ble_eq_true rfl)⟩) ⟨tp_blind, va_recv hK hP (ci := 3) (q0 := 1) rfl rfl, fun U hU hW => ⟨rfl, mp_at hZ hS hPc hK hDc hFc hU hW (Or.inr rfl), by rw [hU]; exact px_at hT hS hW hFc⟩⟩ rfl rfl hl.1 rfl (lv_room (Nat.le_of_ble_eq_true rfl)) dL_callsAt_4 ⟨(Nat.le_of_ble_eq_true rfl), (Nat.le_of_ble_eq_true rfl)⟩) hS hFc (fun E ce q9 H1 locs1 hE hz9 hk9 hS9 hc9 hv9 hl9 => ?_) (fun u z1 H1 locs1 hu hP1 hD1 hz1 hk1 hS1 => ?_)
  · have hP9 : va_P D vwCl (eU cJ qo f :: DW cI cO qk z g) H1 := hP.kept (fun k q hq => hk9 q.1 (hP k q hq).lt)
    have hm := hE0 E hE
    simp only [List.mem_cons, List.not_mem_nil, or_false] at hm
    subst hm
    refine vx_catch hown [] ⟨0, 9, 12, 35⟩ [] (by rw [hte]; rfl) (fun z hz => nomatch hz) (by decide) (by decide) (hts (.classLink RL 35 "java/lang/IndexOutOfBoundsException") (by decide +kernel)) (va_Nw.use rfl (hT.2.2.2 (.castable "java/lang/IndexOutOfBoundsException" "java/lang/IndexOutOfBoundsException") (by decide))) hc9 hv9 hl9 ?_
    refine lv_astore_n (lv' := [(3, .ref q9), (0, .ref qk), (1, .int a0), (2, .ref qo)]) hx hb dL_callsAt_12 rfl hl (by decide) rfl (fun ls hl => ?_)
    refine lv_iconst (v := 1) hx hb dL_callsAt_13 (by decide) ?_
    refine vx_ret ?_
    refine W.widen (k := 1) (n := 6) (Nat.le_of_ble_eq_true rfl) (Nat.le_of_ble_eq_true rfl) ?_
    have e9 : kR ["java/lang/IndexOutOfBoundsException"] R = 1 := by rw [hE]; decide
    exact W.iret hx hb hr (fun t ht hW => ⟨z, f, by rw [e9], fun u h => (by rw [hE] at h; cases h), by rw [hE, ht]; exact hP9, by rw [hE]; exact hD, hS9.F ht⟩) hS9.2.2 dL_callsAt_14
  · obtain ⟨hP, hD⟩ := wjc hP hD hA hP1 hD1 hk1
    refine lv_i2l hx hb dL_callsAt_7 rfl ?_
    refine va_last hx hb hK hP hD hS1 0 1 rfl rfl in01 dL_callsAt_8 (fun H locs hP hD hS => ?_)
    refine lv_goto (tgt := 15) hx hb dL_callsAt_9 (by decide) ?_
    refine lv_iconst (v := 0) hx hb dL_callsAt_15 (by decide) ?_
    refine vx_ret ?_
    refine W.widen (k := 1) (n := 6) (Nat.le_of_ble_eq_true rfl) (Nat.le_of_ble_eq_true rfl) ?_
    exact W.iret hx hb hr (fun t ht hW => ⟨z1, vp_updL f (0 : Int32).toNatClampNeg (u.1.toInt64), by rw [hu]; rfl, fun u1 h => (by rw [hu] at h; cases h; rfl), by rw [hu, ht]; exact hP, by rw [hu]; exact hD, hS.F ht⟩) hS.2.2 dL_callsAt_16
set_option maxHeartbeats 4000000 in
set_option maxRecDepth 100000 in
theorem h_buy (l : Launch) (D : va_G) (cI cJ cO : ClassId) (ah qk qo : Nat) (f : Nat → Int64) (z : AZ) (g : SG) (sz N : Nat) (a0 : Int32) (a1 : Int32) (a2 : Int32) (R : (Int64 × SG) ⊕ String) (hl0 : l.stackTraces = false) (hk : k_buy N g a0 a1 a2 = some R) (hE0 : ∀ E, R = .inr E → E ∈ ["java/lang/IndexOutOfBoundsException", "java/lang/IllegalArgumentException", "java/lang/IllegalStateException"]) : Met l yL_buy wsL_buy ({ frames := 8, cells := 6, slots := 36, locals := 141 }) (va_Pc [.ref qk, .int a0, .int a1, .int a2, .ref qo] (hP0 D (ty3 cI cJ cO) (some ah) (eU cJ qo f :: DW cI cO qk z g) sz)) (HQ D cI cJ cO qk qo (va_A (eU cJ qo f :: DW cI cO qk z g) sz) ["java/lang/IndexOutOfBoundsException", "java/lang/IllegalArgumentException", "java/lang/IllegalStateException"] (fun v : Int64 => v) g R) 6 36 (va_A (eU cJ qo f :: DW cI cO qk z g) sz) := by
  refine met_of_vx (vx_ofWH (hh := [(0, 11, 14, 35), (0, 11, 18, 13), (0, 11, 22, 22)]) (cc := cL_buy) (maxL := 6) (ret := (some .int)) (by decide) rfl ?_)
  intro p e s m args below meth c s₁ Bd hml hv
  obtain ⟨rfl, ⟨⟨hsz, hZ, hP, hK, hD0⟩, hT⟩, hn1, hn2, hn3⟩ := hv
  have hx := Bd.exec
  have hb := Bd.bytes
  have hr := Bd.returns
  have hts := atoms_spec (ws := wsL_buy) Bd.pre
  have hown : s.vm.findClass RL = some m.cls := findClass_of_methodNamed Bd.named
  have hte : c.exceptionTable.toList = [⟨0, 11, 14, 35⟩, ⟨0, 11, 18, 13⟩, ⟨0, 11, 22, 22⟩] := vx_table (x := yL_buy) Bd (hts (.codeWith yL_buy cL_buy 6 (some .int) [(0, 11, 14, 35), (0, 11, 18, 13), (0, 11, 22, 22)]) List.mem_cons_self)
  subst hsz
  have hD := hD0.self (sz := s.heap.size)
  generalize hAe : va_A (eU cJ qo f :: DW cI cO qk z g) s.heap.size = A at hD hZ hT ⊢
  have hA : ∀ q : Nat, s.heap.size ≤ q → A q := fun q h => by rw [← hAe]; exact Or.inr h
  have hS : va_S A s.heap s.heap [] := va_S.rf
  have hl := lv_entry ([.ref qk, .int a0, .int a1, .int a2, .ref qo]) (n := 6) (Nat.le_of_ble_eq_true rfl)
  rw [lg_entry_eq]
  generalize (lg_sl ([.ref qk, .int a0, .int a1, .int a2, .ref qo]) ++ List.replicate (6 - (lg_sl ([.ref qk, .int a0, .int a1, .int a2, .ref qo])).length) Slot.unset).toArray = ls at hl ⊢
  have hl : lv_has ls 6 [(0, .ref qk), (1, .int a0), (2, .int a1), (3, .int a2), (4, .ref qo)] := hl
  refine lv_aload hx hb dL_buy_0 (lv_at hl 4 rfl) ?_
  refine lv_iconst (v := 0) hx hb dL_buy_2 (by decide) ?_
  refine lv_aload_n hx hb dL_buy_3 rfl (lv_at hl 0 rfl) ?_
  refine lv_iload_n hx hb dL_buy_4 rfl (lv_at hl 1 rfl) ?_
  refine lv_iload_n hx hb dL_buy_5 rfl (lv_at hl 2 rfl) ?_
  refine lv_iload_n hx hb dL_buy_6 rfl (lv_at hl 3 rfl) ?_
  have hPc := wp_tail hP
  have hDc := wd_tail hD
  have hFc : ∀ q, va_A (DW cI cO qk z g) s.heap.size q → A q := va_A_of hDc hS hA
  refine xU (vx_runV (As := [.int a0, .int a1, .int a2]) (rest := [.int 0, .ref qo]) ⟨hx, hb, hml, hown, hts⟩ (u_buy l D cI cJ cO ah qk z g s.heap.size N a0 a1 a2 R hl0 hk) (cwV 3 hts gL_buy_X4_buy rfl rfl rfl (by decide +kernel) ⟨(Nat.le_of_ble_eq_true rfl), (Nat.le_of_ble_eq_true rfl)⟩) ⟨tp_blind, va_recv hK hP (ci := 3) (q0 := 1) rfl rfl, fun U hU hW => ⟨rfl, mp_at hZ hS hPc hK hDc hFc hU hW (Or.inr rfl), by rw [hU]; exact px_at hT hS hW hFc⟩⟩ rfl rfl hl.1 rfl (lv_room (Nat.le_of_ble_eq_true rfl)) dL_buy_7 ⟨(Nat.le_of_ble_eq_true rfl), (Nat.le_of_ble_eq_true rfl)⟩) hS hFc (fun E ce q9 H1 locs1 hE hz9 hk9 hS9 hc9 hv9 hl9 => ?_) (fun u z1 H1 locs1 hu hP1 hD1 hz1 hk1 hS1 => ?_)
  · have hP9 : va_P D vwCl (eU cJ qo f :: DW cI cO qk z g) H1 := hP.kept (fun k q hq => hk9 q.1 (hP k q hq).lt)
    have hm := hE0 E hE
    simp only [List.mem_cons, List.not_mem_nil, or_false] at hm
    rcases hm with rfl | rfl | rfl
    · refine vx_catch hown [] ⟨0, 11, 14, 35⟩ [⟨0, 11, 18, 13⟩, ⟨0, 11, 22, 22⟩] (by rw [hte]; rfl) (fun z hz => nomatch hz) (by decide) (by decide) (hts (.classLink RL 35 "java/lang/IndexOutOfBoundsException") (by decide +kernel)) (va_Nw.use rfl (hT.2.2.2 (.castable "java/lang/IndexOutOfBoundsException" "java/lang/IndexOutOfBoundsException") (by decide))) hc9 hv9 hl9 ?_
      refine lv_astore (lv' := [(5, .ref q9), (0, .ref qk), (1, .int a0), (2, .int a1), (3, .int a2), (4, .ref qo)]) hx hb dL_buy_14 hl (by decide) rfl (fun ls hl => ?_)
      refine lv_iconst (v := 1) hx hb dL_buy_16 (by decide) ?_
      refine vx_ret ?_
      refine W.widen (k := 6) (n := 36) (Nat.le_of_ble_eq_true rfl) (Nat.le_of_ble_eq_true rfl) ?_
      have e9 : kR ["java/lang/IndexOutOfBoundsException", "java/lang/IllegalArgumentException", "java/lang/IllegalStateException"] R = 1 := by rw [hE]; decide
      exact W.iret hx hb hr (fun t ht hW => ⟨z, f, by rw [e9], fun u h => (by rw [hE] at h; cases h), by rw [hE, ht]; exact hP9, by rw [hE]; exact hD, hS9.F ht⟩) hS9.2.2 dL_buy_17
    · refine vx_catch hown [⟨0, 11, 14, 35⟩] ⟨0, 11, 18, 13⟩ [⟨0, 11, 22, 22⟩] (by rw [hte]; rfl) (fun z hz => by rw [List.mem_singleton.mp hz]; exact Or.inr ⟨by decide, _, hts (.classLink RL 35 "java/lang/IndexOutOfBoundsException") (by decide +kernel), hn1⟩) (by decide) (by decide) (hts (.classLink RL 13 "java/lang/IllegalArgumentException") (by decide +kernel)) (va_Nw.use rfl (hT.2.2.2 (.castable "java/lang/IllegalArgumentException" "java/lang/IllegalArgumentException") (by decide))) hc9 hv9 hl9 ?_
      refine lv_astore (lv' := [(5, .ref q9), (0, .ref qk), (1, .int a0), (2, .int a1), (3, .int a2), (4, .ref qo)]) hx hb dL_buy_18 hl (by decide) rfl (fun ls hl => ?_)
      refine lv_iconst (v := 2) hx hb dL_buy_20 (by decide) ?_
      refine vx_ret ?_
      refine W.widen (k := 6) (n := 36) (Nat.le_of_ble_eq_true rfl) (Nat.le_of_ble_eq_true rfl) ?_
      have e9 : kR ["java/lang/IndexOutOfBoundsException", "java/lang/IllegalArgumentException", "java/lang/IllegalStateException"] R = 2 := by rw [hE]; decide
      exact W.iret hx hb hr (fun t ht hW => ⟨z, f, by rw [e9], fun u h => (by rw [hE] at h; cases h), by rw [hE, ht]; exact hP9, by rw [hE]; exact hD, hS9.F ht⟩) hS9.2.2 dL_buy_21
    · refine vx_catch hown [⟨0, 11, 14, 35⟩, ⟨0, 11, 18, 13⟩] ⟨0, 11, 22, 22⟩ [] (by rw [hte]; rfl) (fun z hz => by rcases List.mem_cons.mp hz with h | h; rw [h]; exact Or.inr ⟨by decide, _, hts (.classLink RL 35 "java/lang/IndexOutOfBoundsException") (by decide +kernel), hn2⟩; rw [List.mem_singleton.mp h]; exact Or.inr ⟨by decide, _, hts (.classLink RL 13 "java/lang/IllegalArgumentException") (by decide +kernel), hn3⟩) (by decide) (by decide) (hts (.classLink RL 22 "java/lang/IllegalStateException") (by decide +kernel)) (va_Nw.use rfl (hT.2.2.2 (.castable "java/lang/IllegalStateException" "java/lang/IllegalStateException") (by decide))) hc9 hv9 hl9 ?_
      refine lv_astore (lv' := [(5, .ref q9), (0, .ref qk), (1, .int a0), (2, .int a1), (3, .int a2), (4, .ref qo)]) hx hb dL_buy_22 hl (by decide) rfl (fun ls hl => ?_)
      refine lv_iconst (v := 3) hx hb dL_buy_24 (by decide) ?_
      refine vx_ret ?_
      refine W.widen (k := 6) (n := 36) (Nat.le_of_ble_eq_true rfl) (Nat.le_of_ble_eq_true rfl) ?_
      have e9 : kR ["java/lang/IndexOutOfBoundsException", "java/lang/IllegalArgumentException", "java/lang/IllegalStateException"] R = 3 := by rw [hE]; decide
      exact W.iret hx hb hr (fun t ht hW => ⟨z, f, by rw [e9], fun u h => (by rw [hE] at h; cases h), by rw [hE, ht]; exact hP9, by rw [hE]; exact hD, hS9.F ht⟩) hS9.2.2 dL_buy_25
  · obtain ⟨hP, hD⟩ := wjc hP hD hA hP1 hD1 hk1
    refine va_last hx hb hK hP hD hS1 0 1 rfl rfl in01 dL_buy_10 (fun H locs hP hD hS => ?_)
    refine lv_goto (tgt := 26) hx hb dL_buy_11 (by decide) ?_
    refine lv_iconst (v := 0) hx hb dL_buy_26 (by decide) ?_
    refine vx_ret ?_
    refine W.widen (k := 6) (n := 36) (Nat.le_of_ble_eq_true rfl) (Nat.le_of_ble_eq_true rfl) ?_
    exact W.iret hx hb hr (fun t ht hW => ⟨z1, vp_updL f (0 : Int32).toNatClampNeg (u.1), by rw [hu]; rfl, fun u1 h => (by rw [hu] at h; cases h; rfl), by rw [hu, ht]; exact hP, by rw [hu]; exact hD, hS.F ht⟩) hS.2.2 dL_buy_27
set_option maxHeartbeats 4000000 in
set_option maxRecDepth 100000 in
theorem h_sell (l : Launch) (D : va_G) (cI cJ cO : ClassId) (ah qk qo : Nat) (f : Nat → Int64) (z : AZ) (g : SG) (sz N : Nat) (a0 : Int32) (a1 : Int32) (a2 : Int32) (R : (Int64 × SG) ⊕ String) (hl0 : l.stackTraces = false) (hk : k_sell N g a0 a1 a2 = some R) (hE0 : ∀ E, R = .inr E → E ∈ ["java/lang/IndexOutOfBoundsException", "java/lang/IllegalArgumentException", "java/lang/IllegalStateException"]) : Met l yL_sell wsL_sell ({ frames := 8, cells := 5, slots := 30, locals := 141 }) (va_Pc [.ref qk, .int a0, .int a1, .int a2, .ref qo] (hP0 D (ty3 cI cJ cO) (some ah) (eU cJ qo f :: DW cI cO qk z g) sz)) (HQ D cI cJ cO qk qo (va_A (eU cJ qo f :: DW cI cO qk z g) sz) ["java/lang/IndexOutOfBoundsException", "java/lang/IllegalArgumentException", "java/lang/IllegalStateException"] (fun v : Int64 => v) g R) 5 30 (va_A (eU cJ qo f :: DW cI cO qk z g) sz) := by
  refine met_of_vx (vx_ofWH (hh := [(0, 11, 14, 35), (0, 11, 18, 13), (0, 11, 22, 22)]) (cc := cL_sell) (maxL := 6) (ret := (some .int)) (by decide) rfl ?_)
  intro p e s m args below meth c s₁ Bd hml hv
  obtain ⟨rfl, ⟨⟨hsz, hZ, hP, hK, hD0⟩, hT⟩, hn1, hn2, hn3⟩ := hv
  have hx := Bd.exec
  have hb := Bd.bytes
  have hr := Bd.returns
  have hts := atoms_spec (ws := wsL_sell) Bd.pre
  have hown : s.vm.findClass RL = some m.cls := findClass_of_methodNamed Bd.named
  have hte : c.exceptionTable.toList = [⟨0, 11, 14, 35⟩, ⟨0, 11, 18, 13⟩, ⟨0, 11, 22, 22⟩] := vx_table (x := yL_sell) Bd (hts (.codeWith yL_sell cL_sell 6 (some .int) [(0, 11, 14, 35), (0, 11, 18, 13), (0, 11, 22, 22)]) List.mem_cons_self)
  subst hsz
  have hD := hD0.self (sz := s.heap.size)
  generalize hAe : va_A (eU cJ qo f :: DW cI cO qk z g) s.heap.size = A at hD hZ hT ⊢
  have hA : ∀ q : Nat, s.heap.size ≤ q → A q := fun q h => by rw [← hAe]; exact Or.inr h
  have hS : va_S A s.heap s.heap [] := va_S.rf
  have hl := lv_entry ([.ref qk, .int a0, .int a1, .int a2, .ref qo]) (n := 6) (Nat.le_of_ble_eq_true rfl)
  rw [lg_entry_eq]
  generalize (lg_sl ([.ref qk, .int a0, .int a1, .int a2, .ref qo]) ++ List.replicate (6 - (lg_sl ([.ref qk, .int a0, .int a1, .int a2, .ref qo])).length) Slot.unset).toArray = ls at hl ⊢
  have hl : lv_has ls 6 [(0, .ref qk), (1, .int a0), (2, .int a1), (3, .int a2), (4, .ref qo)] := hl
  refine lv_aload hx hb dL_sell_0 (lv_at hl 4 rfl) ?_
  refine lv_iconst (v := 0) hx hb dL_sell_2 (by decide) ?_
  refine lv_aload_n hx hb dL_sell_3 rfl (lv_at hl 0 rfl) ?_
  refine lv_iload_n hx hb dL_sell_4 rfl (lv_at hl 1 rfl) ?_
  refine lv_iload_n hx hb dL_sell_5 rfl (lv_at hl 2 rfl) ?_
  refine lv_iload_n hx hb dL_sell_6 rfl (lv_at hl 3 rfl) ?_
  have hPc := wp_tail hP
  have hDc := wd_tail hD
  have hFc : ∀ q, va_A (DW cI cO qk z g) s.heap.size q → A q := va_A_of hDc hS hA
  refine xU (vx_runV (As := [.int a0, .int a1, .int a2]) (rest := [.int 0, .ref qo]) ⟨hx, hb, hml, hown, hts⟩ (u_sell l D cI cJ cO ah qk z g s.heap.size N a0 a1 a2 R hl0 hk) (cwV 3 hts gL_sell_X4_sell rfl rfl rfl (by decide +kernel) ⟨(Nat.le_of_ble_eq_true rfl), (Nat.le_of_ble_eq_true rfl)⟩) ⟨tp_blind, va_recv hK hP (ci := 3) (q0 := 1) rfl rfl, fun U hU hW => ⟨rfl, mp_at hZ hS hPc hK hDc hFc hU hW (Or.inr rfl), by rw [hU]; exact px_at hT hS hW hFc⟩⟩ rfl rfl hl.1 rfl (lv_room (Nat.le_of_ble_eq_true rfl)) dL_sell_7 ⟨(Nat.le_of_ble_eq_true rfl), (Nat.le_of_ble_eq_true rfl)⟩) hS hFc (fun E ce q9 H1 locs1 hE hz9 hk9 hS9 hc9 hv9 hl9 => ?_) (fun u z1 H1 locs1 hu hP1 hD1 hz1 hk1 hS1 => ?_)
  · have hP9 : va_P D vwCl (eU cJ qo f :: DW cI cO qk z g) H1 := hP.kept (fun k q hq => hk9 q.1 (hP k q hq).lt)
    have hm := hE0 E hE
    simp only [List.mem_cons, List.not_mem_nil, or_false] at hm
    rcases hm with rfl | rfl | rfl
    · refine vx_catch hown [] ⟨0, 11, 14, 35⟩ [⟨0, 11, 18, 13⟩, ⟨0, 11, 22, 22⟩] (by rw [hte]; rfl) (fun z hz => nomatch hz) (by decide) (by decide) (hts (.classLink RL 35 "java/lang/IndexOutOfBoundsException") (by decide +kernel)) (va_Nw.use rfl (hT.2.2.2 (.castable "java/lang/IndexOutOfBoundsException" "java/lang/IndexOutOfBoundsException") (by decide))) hc9 hv9 hl9 ?_
      refine lv_astore (lv' := [(5, .ref q9), (0, .ref qk), (1, .int a0), (2, .int a1), (3, .int a2), (4, .ref qo)]) hx hb dL_sell_14 hl (by decide) rfl (fun ls hl => ?_)
      refine lv_iconst (v := 1) hx hb dL_sell_16 (by decide) ?_
      refine vx_ret ?_
      refine W.widen (k := 5) (n := 30) (Nat.le_of_ble_eq_true rfl) (Nat.le_of_ble_eq_true rfl) ?_
      have e9 : kR ["java/lang/IndexOutOfBoundsException", "java/lang/IllegalArgumentException", "java/lang/IllegalStateException"] R = 1 := by rw [hE]; decide
      exact W.iret hx hb hr (fun t ht hW => ⟨z, f, by rw [e9], fun u h => (by rw [hE] at h; cases h), by rw [hE, ht]; exact hP9, by rw [hE]; exact hD, hS9.F ht⟩) hS9.2.2 dL_sell_17
    · refine vx_catch hown [⟨0, 11, 14, 35⟩] ⟨0, 11, 18, 13⟩ [⟨0, 11, 22, 22⟩] (by rw [hte]; rfl) (fun z hz => by rw [List.mem_singleton.mp hz]; exact Or.inr ⟨by decide, _, hts (.classLink RL 35 "java/lang/IndexOutOfBoundsException") (by decide +kernel), hn1⟩) (by decide) (by decide) (hts (.classLink RL 13 "java/lang/IllegalArgumentException") (by decide +kernel)) (va_Nw.use rfl (hT.2.2.2 (.castable "java/lang/IllegalArgumentException" "java/lang/IllegalArgumentException") (by decide))) hc9 hv9 hl9 ?_
      refine lv_astore (lv' := [(5, .ref q9), (0, .ref qk), (1, .int a0), (2, .int a1), (3, .int a2), (4, .ref qo)]) hx hb dL_sell_18 hl (by decide) rfl (fun ls hl => ?_)
      refine lv_iconst (v := 2) hx hb dL_sell_20 (by decide) ?_
      refine vx_ret ?_
      refine W.widen (k := 5) (n := 30) (Nat.le_of_ble_eq_true rfl) (Nat.le_of_ble_eq_true rfl) ?_
      have e9 : kR ["java/lang/IndexOutOfBoundsException", "java/lang/IllegalArgumentException", "java/lang/IllegalStateException"] R = 2 := by rw [hE]; decide
      exact W.iret hx hb hr (fun t ht hW => ⟨z, f, by rw [e9], fun u h => (by rw [hE] at h; cases h), by rw [hE, ht]; exact hP9, by rw [hE]; exact hD, hS9.F ht⟩) hS9.2.2 dL_sell_21
    · refine vx_catch hown [⟨0, 11, 14, 35⟩, ⟨0, 11, 18, 13⟩] ⟨0, 11, 22, 22⟩ [] (by rw [hte]; rfl) (fun z hz => by rcases List.mem_cons.mp hz with h | h; rw [h]; exact Or.inr ⟨by decide, _, hts (.classLink RL 35 "java/lang/IndexOutOfBoundsException") (by decide +kernel), hn2⟩; rw [List.mem_singleton.mp h]; exact Or.inr ⟨by decide, _, hts (.classLink RL 13 "java/lang/IllegalArgumentException") (by decide +kernel), hn3⟩) (by decide) (by decide) (hts (.classLink RL 22 "java/lang/IllegalStateException") (by decide +kernel)) (va_Nw.use rfl (hT.2.2.2 (.castable "java/lang/IllegalStateException" "java/lang/IllegalStateException") (by decide))) hc9 hv9 hl9 ?_
      refine lv_astore (lv' := [(5, .ref q9), (0, .ref qk), (1, .int a0), (2, .int a1), (3, .int a2), (4, .ref qo)]) hx hb dL_sell_22 hl (by decide) rfl (fun ls hl => ?_)
      refine lv_iconst (v := 3) hx hb dL_sell_24 (by decide) ?_
      refine vx_ret ?_
      refine W.widen (k := 5) (n := 30) (Nat.le_of_ble_eq_true rfl) (Nat.le_of_ble_eq_true rfl) ?_
      have e9 : kR ["java/lang/IndexOutOfBoundsException", "java/lang/IllegalArgumentException", "java/lang/IllegalStateException"] R = 3 := by rw [hE]; decide
      exact W.iret hx hb hr (fun t ht hW => ⟨z, f, by rw [e9], fun u h => (by rw [hE] at h; cases h), by rw [hE, ht]; exact hP9, by rw [hE]; exact hD, hS9.F ht⟩) hS9.2.2 dL_sell_25
  · obtain ⟨hP, hD⟩ := wjc hP hD hA hP1 hD1 hk1
    refine va_last hx hb hK hP hD hS1 0 1 rfl rfl in01 dL_sell_10 (fun H locs hP hD hS => ?_)
    refine lv_goto (tgt := 26) hx hb dL_sell_11 (by decide) ?_
    refine lv_iconst (v := 0) hx hb dL_sell_26 (by decide) ?_
    refine vx_ret ?_
    refine W.widen (k := 5) (n := 30) (Nat.le_of_ble_eq_true rfl) (Nat.le_of_ble_eq_true rfl) ?_
    exact W.iret hx hb hr (fun t ht hW => ⟨z1, vp_updL f (0 : Int32).toNatClampNeg (u.1), by rw [hu]; rfl, fun u1 h => (by rw [hu] at h; cases h; rfl), by rw [hu, ht]; exact hP, by rw [hu]; exact hD, hS.F ht⟩) hS.2.2 dL_sell_27
set_option maxHeartbeats 4000000 in
set_option maxRecDepth 100000 in
theorem h_pass (l : Launch) (D : va_G) (cI cJ cO : ClassId) (ah qk qo : Nat) (f : Nat → Int64) (z : AZ) (g : SG) (sz N : Nat) (a0 : Int32) (R : (Int64 × SG) ⊕ String) (hl0 : l.stackTraces = false) (hk : k_pass N g a0 = some R) (hE0 : ∀ E, R = .inr E → E ∈ ["java/lang/IllegalArgumentException", "java/lang/IllegalStateException"]) : Met l yL_pass wsL_pass ({ frames := 8, cells := 1, slots := 6, locals := 189 }) (va_Pc [.ref qk, .int a0, .ref qo] (hP0 D (ty3 cI cJ cO) (some ah) (eU cJ qo f :: DW cI cO qk z g) sz)) (HQ D cI cJ cO qk qo (va_A (eU cJ qo f :: DW cI cO qk z g) sz) ["java/lang/IllegalArgumentException", "java/lang/IllegalStateException"] (fun v : Int64 => v) g R) 1 6 (va_A (eU cJ qo f :: DW cI cO qk z g) sz) := by
  refine met_of_vx (vx_ofWH (hh := [(0, 8, 11, 13), (0, 8, 14, 22)]) (cc := cL_pass) (maxL := 4) (ret := (some .int)) (by decide) rfl ?_)
  intro p e s m args below meth c s₁ Bd hml hv
  obtain ⟨rfl, ⟨⟨hsz, hZ, hP, hK, hD0⟩, hT⟩, hn1, hn2, hn3⟩ := hv
  have hx := Bd.exec
  have hb := Bd.bytes
  have hr := Bd.returns
  have hts := atoms_spec (ws := wsL_pass) Bd.pre
  have hown : s.vm.findClass RL = some m.cls := findClass_of_methodNamed Bd.named
  have hte : c.exceptionTable.toList = [⟨0, 8, 11, 13⟩, ⟨0, 8, 14, 22⟩] := vx_table (x := yL_pass) Bd (hts (.codeWith yL_pass cL_pass 4 (some .int) [(0, 8, 11, 13), (0, 8, 14, 22)]) List.mem_cons_self)
  subst hsz
  have hD := hD0.self (sz := s.heap.size)
  generalize hAe : va_A (eU cJ qo f :: DW cI cO qk z g) s.heap.size = A at hD hZ hT ⊢
  have hA : ∀ q : Nat, s.heap.size ≤ q → A q := fun q h => by rw [← hAe]; exact Or.inr h
  have hS : va_S A s.heap s.heap [] := va_S.rf
  have hl := lv_entry ([.ref qk, .int a0, .ref qo]) (n := 4) (Nat.le_of_ble_eq_true rfl)
  rw [lg_entry_eq]
  generalize (lg_sl ([.ref qk, .int a0, .ref qo]) ++ List.replicate (4 - (lg_sl ([.ref qk, .int a0, .ref qo])).length) Slot.unset).toArray = ls at hl ⊢
  have hl : lv_has ls 4 [(0, .ref qk), (1, .int a0), (2, .ref qo)] := hl
  refine lv_aload_n hx hb dL_pass_0 rfl (lv_at hl 2 rfl) ?_
  refine lv_iconst (v := 0) hx hb dL_pass_1 (by decide) ?_
  refine lv_aload_n hx hb dL_pass_2 rfl (lv_at hl 0 rfl) ?_
  refine lv_iload_n hx hb dL_pass_3 rfl (lv_at hl 1 rfl) ?_
  have hPc := wp_tail hP
  have hDc := wd_tail hD
  have hFc : ∀ q, va_A (DW cI cO qk z g) s.heap.size q → A q := va_A_of hDc hS hA
  refine xU (vx_runV (As := [.int a0]) (rest := [.int 0, .ref qo]) ⟨hx, hb, hml, hown, hts⟩ (u_pass l D cI cJ cO ah qk z g s.heap.size N a0 R hl0 hk) (cwV 1 hts gL_pass_X4_pass rfl rfl rfl (by decide +kernel) ⟨(Nat.le_of_ble_eq_true rfl), (Nat.le_of_ble_eq_true rfl)⟩) ⟨tp_blind, va_recv hK hP (ci := 3) (q0 := 1) rfl rfl, fun U hU hW => ⟨rfl, mp_at hZ hS hPc hK hDc hFc hU hW (Or.inr rfl), by rw [hU]; exact px_at hT hS hW hFc⟩⟩ rfl rfl hl.1 rfl (lv_room (Nat.le_of_ble_eq_true rfl)) dL_pass_4 ⟨(Nat.le_of_ble_eq_true rfl), (Nat.le_of_ble_eq_true rfl)⟩) hS hFc (fun E ce q9 H1 locs1 hE hz9 hk9 hS9 hc9 hv9 hl9 => ?_) (fun u z1 H1 locs1 hu hP1 hD1 hz1 hk1 hS1 => ?_)
  · have hP9 : va_P D vwCl (eU cJ qo f :: DW cI cO qk z g) H1 := hP.kept (fun k q hq => hk9 q.1 (hP k q hq).lt)
    have hm := hE0 E hE
    simp only [List.mem_cons, List.not_mem_nil, or_false] at hm
    rcases hm with rfl | rfl
    · refine vx_catch hown [] ⟨0, 8, 11, 13⟩ [⟨0, 8, 14, 22⟩] (by rw [hte]; rfl) (fun z hz => nomatch hz) (by decide) (by decide) (hts (.classLink RL 13 "java/lang/IllegalArgumentException") (by decide +kernel)) (va_Nw.use rfl (hT.2.2.2 (.castable "java/lang/IllegalArgumentException" "java/lang/IllegalArgumentException") (by decide))) hc9 hv9 hl9 ?_
      refine lv_astore_n (lv' := [(3, .ref q9), (0, .ref qk), (1, .int a0), (2, .ref qo)]) hx hb dL_pass_11 rfl hl (by decide) rfl (fun ls hl => ?_)
      refine lv_iconst (v := 1) hx hb dL_pass_12 (by decide) ?_
      refine vx_ret ?_
      refine W.widen (k := 1) (n := 6) (Nat.le_of_ble_eq_true rfl) (Nat.le_of_ble_eq_true rfl) ?_
      have e9 : kR ["java/lang/IllegalArgumentException", "java/lang/IllegalStateException"] R = 1 := by rw [hE]; decide
      exact W.iret hx hb hr (fun t ht hW => ⟨z, f, by rw [e9], fun u h => (by rw [hE] at h; cases h), by rw [hE, ht]; exact hP9, by rw [hE]; exact hD, hS9.F ht⟩) hS9.2.2 dL_pass_13
    · refine vx_catch hown [⟨0, 8, 11, 13⟩] ⟨0, 8, 14, 22⟩ [] (by rw [hte]; rfl) (fun z hz => by rw [List.mem_singleton.mp hz]; exact Or.inr ⟨by decide, _, hts (.classLink RL 13 "java/lang/IllegalArgumentException") (by decide +kernel), hn3⟩) (by decide) (by decide) (hts (.classLink RL 22 "java/lang/IllegalStateException") (by decide +kernel)) (va_Nw.use rfl (hT.2.2.2 (.castable "java/lang/IllegalStateException" "java/lang/IllegalStateException") (by decide))) hc9 hv9 hl9 ?_
      refine lv_astore_n (lv' := [(3, .ref q9), (0, .ref qk), (1, .int a0), (2, .ref qo)]) hx hb dL_pass_14 rfl hl (by decide) rfl (fun ls hl => ?_)
      refine lv_iconst (v := 2) hx hb dL_pass_15 (by decide) ?_
      refine vx_ret ?_
      refine W.widen (k := 1) (n := 6) (Nat.le_of_ble_eq_true rfl) (Nat.le_of_ble_eq_true rfl) ?_
      have e9 : kR ["java/lang/IllegalArgumentException", "java/lang/IllegalStateException"] R = 2 := by rw [hE]; decide
      exact W.iret hx hb hr (fun t ht hW => ⟨z, f, by rw [e9], fun u h => (by rw [hE] at h; cases h), by rw [hE, ht]; exact hP9, by rw [hE]; exact hD, hS9.F ht⟩) hS9.2.2 dL_pass_16
  · obtain ⟨hP, hD⟩ := wjc hP hD hA hP1 hD1 hk1
    refine va_last hx hb hK hP hD hS1 0 1 rfl rfl in01 dL_pass_7 (fun H locs hP hD hS => ?_)
    refine lv_goto (tgt := 17) hx hb dL_pass_8 (by decide) ?_
    refine lv_iconst (v := 0) hx hb dL_pass_17 (by decide) ?_
    refine vx_ret ?_
    refine W.widen (k := 1) (n := 6) (Nat.le_of_ble_eq_true rfl) (Nat.le_of_ble_eq_true rfl) ?_
    exact W.iret hx hb hr (fun t ht hW => ⟨z1, vp_updL f (0 : Int32).toNatClampNeg (u.1), by rw [hu]; rfl, fun u1 h => (by rw [hu] at h; cases h; rfl), by rw [hu, ht]; exact hP, by rw [hu]; exact hD, hS.F ht⟩) hS.2.2 dL_pass_18
set_option maxHeartbeats 4000000 in
set_option maxRecDepth 100000 in
theorem h_count (l : Launch) (D : va_G) (cI cJ cO : ClassId) (ah qk qo : Nat) (f : Nat → Int64) (z : AZ) (g : SG) (sz N : Nat) (a0 : Int32) (R : (Int64 × SG) ⊕ String) (hl0 : l.stackTraces = false) (hk : k_count N g a0 = some R) (hE0 : ∀ E, R = .inr E → E ∈ ["java/lang/IndexOutOfBoundsException"]) : Met l yL_count wsL_count ({ frames := 7, cells := 1, slots := 6, locals := 159 }) (va_Pc [.ref qk, .int a0, .ref qo] (hP0 D (ty3 cI cJ cO) (some ah) (eU cJ qo f :: DW cI cO qk z g) sz)) (HQ D cI cJ cO qk qo (va_A (eU cJ qo f :: DW cI cO qk z g) sz) ["java/lang/IndexOutOfBoundsException"] (fun v : Int64 => v) g R) 1 6 (va_A (eU cJ qo f :: DW cI cO qk z g) sz) := by
  refine met_of_vx (vx_ofWH (hh := [(0, 8, 11, 35)]) (cc := cL_count) (maxL := 4) (ret := (some .int)) (by decide) rfl ?_)
  intro p e s m args below meth c s₁ Bd hml hv
  obtain ⟨rfl, ⟨⟨hsz, hZ, hP, hK, hD0⟩, hT⟩, hn1, hn2, hn3⟩ := hv
  have hx := Bd.exec
  have hb := Bd.bytes
  have hr := Bd.returns
  have hts := atoms_spec (ws := wsL_count) Bd.pre
  have hown : s.vm.findClass RL = some m.cls := findClass_of_methodNamed Bd.named
  have hte : c.exceptionTable.toList = [⟨0, 8, 11, 35⟩] := vx_table (x := yL_count) Bd (hts (.codeWith yL_count cL_count 4 (some .int) [(0, 8, 11, 35)]) List.mem_cons_self)
  subst hsz
  have hD := hD0.self (sz := s.heap.size)
  generalize hAe : va_A (eU cJ qo f :: DW cI cO qk z g) s.heap.size = A at hD hZ hT ⊢
  have hA : ∀ q : Nat, s.heap.size ≤ q → A q := fun q h => by rw [← hAe]; exact Or.inr h
  have hS : va_S A s.heap s.heap [] := va_S.rf
  have hl := lv_entry ([.ref qk, .int a0, .ref qo]) (n := 4) (Nat.le_of_ble_eq_true rfl)
  rw [lg_entry_eq]
  generalize (lg_sl ([.ref qk, .int a0, .ref qo]) ++ List.replicate (4 - (lg_sl ([.ref qk, .int a0, .ref qo])).length) Slot.unset).toArray = ls at hl ⊢
  have hl : lv_has ls 4 [(0, .ref qk), (1, .int a0), (2, .ref qo)] := hl
  refine lv_aload_n hx hb dL_count_0 rfl (lv_at hl 2 rfl) ?_
  refine lv_iconst (v := 0) hx hb dL_count_1 (by decide) ?_
  refine lv_aload_n hx hb dL_count_2 rfl (lv_at hl 0 rfl) ?_
  refine lv_iload_n hx hb dL_count_3 rfl (lv_at hl 1 rfl) ?_
  have hPc := wp_tail hP
  have hDc := wd_tail hD
  have hFc : ∀ q, va_A (DW cI cO qk z g) s.heap.size q → A q := va_A_of hDc hS hA
  refine xU (vx_runV (As := [.int a0]) (rest := [.int 0, .ref qo]) ⟨hx, hb, hml, hown, hts⟩ (u_count l D cI cJ cO ah qk z g s.heap.size N a0 R hl0 hk) (cwV 1 hts gL_count_X4_count rfl rfl rfl (by decide +kernel) ⟨(Nat.le_of_ble_eq_true rfl), (Nat.le_of_ble_eq_true rfl)⟩) ⟨tp_blind, va_recv hK hP (ci := 3) (q0 := 1) rfl rfl, fun U hU hW => ⟨rfl, mp_at hZ hS hPc hK hDc hFc hU hW (Or.inr rfl), by rw [hU]; exact px_at hT hS hW hFc⟩⟩ rfl rfl hl.1 rfl (lv_room (Nat.le_of_ble_eq_true rfl)) dL_count_4 ⟨(Nat.le_of_ble_eq_true rfl), (Nat.le_of_ble_eq_true rfl)⟩) hS hFc (fun E ce q9 H1 locs1 hE hz9 hk9 hS9 hc9 hv9 hl9 => ?_) (fun u z1 H1 locs1 hu hP1 hD1 hz1 hk1 hS1 => ?_)
  · have hP9 : va_P D vwCl (eU cJ qo f :: DW cI cO qk z g) H1 := hP.kept (fun k q hq => hk9 q.1 (hP k q hq).lt)
    have hm := hE0 E hE
    simp only [List.mem_cons, List.not_mem_nil, or_false] at hm
    subst hm
    refine vx_catch hown [] ⟨0, 8, 11, 35⟩ [] (by rw [hte]; rfl) (fun z hz => nomatch hz) (by decide) (by decide) (hts (.classLink RL 35 "java/lang/IndexOutOfBoundsException") (by decide +kernel)) (va_Nw.use rfl (hT.2.2.2 (.castable "java/lang/IndexOutOfBoundsException" "java/lang/IndexOutOfBoundsException") (by decide))) hc9 hv9 hl9 ?_
    refine lv_astore_n (lv' := [(3, .ref q9), (0, .ref qk), (1, .int a0), (2, .ref qo)]) hx hb dL_count_11 rfl hl (by decide) rfl (fun ls hl => ?_)
    refine lv_iconst (v := 1) hx hb dL_count_12 (by decide) ?_
    refine vx_ret ?_
    refine W.widen (k := 1) (n := 6) (Nat.le_of_ble_eq_true rfl) (Nat.le_of_ble_eq_true rfl) ?_
    have e9 : kR ["java/lang/IndexOutOfBoundsException"] R = 1 := by rw [hE]; decide
    exact W.iret hx hb hr (fun t ht hW => ⟨z, f, by rw [e9], fun u h => (by rw [hE] at h; cases h), by rw [hE, ht]; exact hP9, by rw [hE]; exact hD, hS9.F ht⟩) hS9.2.2 dL_count_13
  · obtain ⟨hP, hD⟩ := wjc hP hD hA hP1 hD1 hk1
    refine va_last hx hb hK hP hD hS1 0 1 rfl rfl in01 dL_count_7 (fun H locs hP hD hS => ?_)
    refine lv_goto (tgt := 14) hx hb dL_count_8 (by decide) ?_
    refine lv_iconst (v := 0) hx hb dL_count_14 (by decide) ?_
    refine vx_ret ?_
    refine W.widen (k := 1) (n := 6) (Nat.le_of_ble_eq_true rfl) (Nat.le_of_ble_eq_true rfl) ?_
    exact W.iret hx hb hr (fun t ht hW => ⟨z1, vp_updL f (0 : Int32).toNatClampNeg (u.1), by rw [hu]; rfl, fun u1 h => (by rw [hu] at h; cases h; rfl), by rw [hu, ht]; exact hP, by rw [hu]; exact hD, hS.F ht⟩) hS.2.2 dL_count_15
set_option maxHeartbeats 4000000 in
set_option maxRecDepth 100000 in
theorem h_paysIn (l : Launch) (D : va_G) (cI cJ cO : ClassId) (ah qk qo : Nat) (f : Nat → Int64) (z : AZ) (g : SG) (sz N : Nat) (a0 : Int32) (R : (Int64 × SG) ⊕ String) (hl0 : l.stackTraces = false) (hk : k_paysIn N g a0 = some R) (hE0 : ∀ E, R = .inr E → E ∈ ["java/lang/IllegalArgumentException"]) : Met l yL_paysIn wsL_paysIn ({ frames := 8, cells := 1, slots := 6, locals := 129 }) (va_Pc [.ref qk, .int a0, .ref qo] (hP0 D (ty3 cI cJ cO) (some ah) (eU cJ qo f :: DW cI cO qk z g) sz)) (HQ D cI cJ cO qk qo (va_A (eU cJ qo f :: DW cI cO qk z g) sz) ["java/lang/IllegalArgumentException"] (fun v : Int64 => v) g R) 1 6 (va_A (eU cJ qo f :: DW cI cO qk z g) sz) := by
  refine met_of_vx (vx_ofWH (hh := [(0, 8, 11, 13)]) (cc := cL_paysIn) (maxL := 4) (ret := (some .int)) (by decide) rfl ?_)
  intro p e s m args below meth c s₁ Bd hml hv
  obtain ⟨rfl, ⟨⟨hsz, hZ, hP, hK, hD0⟩, hT⟩, hn1, hn2, hn3⟩ := hv
  have hx := Bd.exec
  have hb := Bd.bytes
  have hr := Bd.returns
  have hts := atoms_spec (ws := wsL_paysIn) Bd.pre
  have hown : s.vm.findClass RL = some m.cls := findClass_of_methodNamed Bd.named
  have hte : c.exceptionTable.toList = [⟨0, 8, 11, 13⟩] := vx_table (x := yL_paysIn) Bd (hts (.codeWith yL_paysIn cL_paysIn 4 (some .int) [(0, 8, 11, 13)]) List.mem_cons_self)
  subst hsz
  have hD := hD0.self (sz := s.heap.size)
  generalize hAe : va_A (eU cJ qo f :: DW cI cO qk z g) s.heap.size = A at hD hZ hT ⊢
  have hA : ∀ q : Nat, s.heap.size ≤ q → A q := fun q h => by rw [← hAe]; exact Or.inr h
  have hS : va_S A s.heap s.heap [] := va_S.rf
  have hl := lv_entry ([.ref qk, .int a0, .ref qo]) (n := 4) (Nat.le_of_ble_eq_true rfl)
  rw [lg_entry_eq]
  generalize (lg_sl ([.ref qk, .int a0, .ref qo]) ++ List.replicate (4 - (lg_sl ([.ref qk, .int a0, .ref qo])).length) Slot.unset).toArray = ls at hl ⊢
  have hl : lv_has ls 4 [(0, .ref qk), (1, .int a0), (2, .ref qo)] := hl
  refine lv_aload_n hx hb dL_paysIn_0 rfl (lv_at hl 2 rfl) ?_
  refine lv_iconst (v := 0) hx hb dL_paysIn_1 (by decide) ?_
  refine lv_aload_n hx hb dL_paysIn_2 rfl (lv_at hl 0 rfl) ?_
  refine lv_iload_n hx hb dL_paysIn_3 rfl (lv_at hl 1 rfl) ?_
  have hPc := wp_tail hP
  have hDc := wd_tail hD
  have hFc : ∀ q, va_A (DW cI cO qk z g) s.heap.size q → A q := va_A_of hDc hS hA
  refine xU (vx_runV (As := [.int a0]) (rest := [.int 0, .ref qo]) ⟨hx, hb, hml, hown, hts⟩ (u_paysIn l D cI cJ cO ah qk z g s.heap.size N a0 R hl0 hk) (cwV 1 hts gL_paysIn_X4_paysIn rfl rfl rfl (by decide +kernel) ⟨(Nat.le_of_ble_eq_true rfl), (Nat.le_of_ble_eq_true rfl)⟩) ⟨tp_blind, va_recv hK hP (ci := 3) (q0 := 1) rfl rfl, fun U hU hW => ⟨rfl, mp_at hZ hS hPc hK hDc hFc hU hW (Or.inr rfl), by rw [hU]; exact px_at hT hS hW hFc⟩⟩ rfl rfl hl.1 rfl (lv_room (Nat.le_of_ble_eq_true rfl)) dL_paysIn_4 ⟨(Nat.le_of_ble_eq_true rfl), (Nat.le_of_ble_eq_true rfl)⟩) hS hFc (fun E ce q9 H1 locs1 hE hz9 hk9 hS9 hc9 hv9 hl9 => ?_) (fun u z1 H1 locs1 hu hP1 hD1 hz1 hk1 hS1 => ?_)
  · have hP9 : va_P D vwCl (eU cJ qo f :: DW cI cO qk z g) H1 := hP.kept (fun k q hq => hk9 q.1 (hP k q hq).lt)
    have hm := hE0 E hE
    simp only [List.mem_cons, List.not_mem_nil, or_false] at hm
    subst hm
    refine vx_catch hown [] ⟨0, 8, 11, 13⟩ [] (by rw [hte]; rfl) (fun z hz => nomatch hz) (by decide) (by decide) (hts (.classLink RL 13 "java/lang/IllegalArgumentException") (by decide +kernel)) (va_Nw.use rfl (hT.2.2.2 (.castable "java/lang/IllegalArgumentException" "java/lang/IllegalArgumentException") (by decide))) hc9 hv9 hl9 ?_
    refine lv_astore_n (lv' := [(3, .ref q9), (0, .ref qk), (1, .int a0), (2, .ref qo)]) hx hb dL_paysIn_11 rfl hl (by decide) rfl (fun ls hl => ?_)
    refine lv_iconst (v := 1) hx hb dL_paysIn_12 (by decide) ?_
    refine vx_ret ?_
    refine W.widen (k := 1) (n := 6) (Nat.le_of_ble_eq_true rfl) (Nat.le_of_ble_eq_true rfl) ?_
    have e9 : kR ["java/lang/IllegalArgumentException"] R = 1 := by rw [hE]; decide
    exact W.iret hx hb hr (fun t ht hW => ⟨z, f, by rw [e9], fun u h => (by rw [hE] at h; cases h), by rw [hE, ht]; exact hP9, by rw [hE]; exact hD, hS9.F ht⟩) hS9.2.2 dL_paysIn_13
  · obtain ⟨hP, hD⟩ := wjc hP hD hA hP1 hD1 hk1
    refine va_last hx hb hK hP hD hS1 0 1 rfl rfl in01 dL_paysIn_7 (fun H locs hP hD hS => ?_)
    refine lv_goto (tgt := 14) hx hb dL_paysIn_8 (by decide) ?_
    refine lv_iconst (v := 0) hx hb dL_paysIn_14 (by decide) ?_
    refine vx_ret ?_
    refine W.widen (k := 1) (n := 6) (Nat.le_of_ble_eq_true rfl) (Nat.le_of_ble_eq_true rfl) ?_
    exact W.iret hx hb hr (fun t ht hW => ⟨z1, vp_updL f (0 : Int32).toNatClampNeg (u.1), by rw [hu]; rfl, fun u1 h => (by rw [hu] at h; cases h; rfl), by rw [hu, ht]; exact hP, by rw [hu]; exact hD, hS.F ht⟩) hS.2.2 dL_paysIn_15
set_option maxHeartbeats 4000000 in
set_option maxRecDepth 100000 in
theorem h_ladder (l : Launch) (D : va_G) (cI cJ cO : ClassId) (ah qk qo : Nat) (f : Nat → Int64) (z : AZ) (g : SG) (sz N : Nat) (a0 : Int32) (a1 : Int32) (R : (Int32 × SG) ⊕ String) (hl0 : l.stackTraces = false) (hk : k_ladder N g a0 a1 = some R) (hE0 : ∀ E, R = .inr E → E ∈ ["java/lang/IllegalArgumentException"]) : Met l yL_ladder wsL_ladder ({ frames := 8, cells := 3, slots := 18, locals := 147 }) (va_Pc [.ref qk, .int a0, .int a1, .ref qo] (hP0 D (ty3 cI cJ cO) (some ah) (eU cJ qo f :: DW cI cO qk z g) sz)) (HQ D cI cJ cO qk qo (va_A (eU cJ qo f :: DW cI cO qk z g) sz) ["java/lang/IllegalArgumentException"] Int32.toInt64 g R) 3 18 (va_A (eU cJ qo f :: DW cI cO qk z g) sz) := by
  refine met_of_vx (vx_ofWH (hh := [(0, 10, 13, 13)]) (cc := cL_ladder) (maxL := 5) (ret := (some .int)) (by decide) rfl ?_)
  intro p e s m args below meth c s₁ Bd hml hv
  obtain ⟨rfl, ⟨⟨hsz, hZ, hP, hK, hD0⟩, hT⟩, hn1, hn2, hn3⟩ := hv
  have hx := Bd.exec
  have hb := Bd.bytes
  have hr := Bd.returns
  have hts := atoms_spec (ws := wsL_ladder) Bd.pre
  have hown : s.vm.findClass RL = some m.cls := findClass_of_methodNamed Bd.named
  have hte : c.exceptionTable.toList = [⟨0, 10, 13, 13⟩] := vx_table (x := yL_ladder) Bd (hts (.codeWith yL_ladder cL_ladder 5 (some .int) [(0, 10, 13, 13)]) List.mem_cons_self)
  subst hsz
  have hD := hD0.self (sz := s.heap.size)
  generalize hAe : va_A (eU cJ qo f :: DW cI cO qk z g) s.heap.size = A at hD hZ hT ⊢
  have hA : ∀ q : Nat, s.heap.size ≤ q → A q := fun q h => by rw [← hAe]; exact Or.inr h
  have hS : va_S A s.heap s.heap [] := va_S.rf
  have hl := lv_entry ([.ref qk, .int a0, .int a1, .ref qo]) (n := 5) (Nat.le_of_ble_eq_true rfl)
  rw [lg_entry_eq]
  generalize (lg_sl ([.ref qk, .int a0, .int a1, .ref qo]) ++ List.replicate (5 - (lg_sl ([.ref qk, .int a0, .int a1, .ref qo])).length) Slot.unset).toArray = ls at hl ⊢
  have hl : lv_has ls 5 [(0, .ref qk), (1, .int a0), (2, .int a1), (3, .ref qo)] := hl
  refine lv_aload_n hx hb dL_ladder_0 rfl (lv_at hl 3 rfl) ?_
  refine lv_iconst (v := 0) hx hb dL_ladder_1 (by decide) ?_
  refine lv_aload_n hx hb dL_ladder_2 rfl (lv_at hl 0 rfl) ?_
  refine lv_iload_n hx hb dL_ladder_3 rfl (lv_at hl 1 rfl) ?_
  refine lv_iload_n hx hb dL_ladder_4 rfl (lv_at hl 2 rfl) ?_
  have hPc := wp_tail hP
  have hDc := wd_tail hD
  have hFc : ∀ q, va_A (DW cI cO qk z g) s.heap.size q → A q := va_A_of hDc hS hA
  refine xU (vx_runV (As := [.int a0, .int a1]) (rest := [.int 0, .ref qo]) ⟨hx, hb, hml, hown, hts⟩ (u_ladder l D cI cJ cO ah qk z g s.heap.size N a0 a1 R hl0 hk) (cwV 2 hts gL_ladder_X4_ladder rfl rfl rfl (by decide +kernel) ⟨(Nat.le_of_ble_eq_true rfl), (Nat.le_of_ble_eq_true rfl)⟩) ⟨tp_blind, va_recv hK hP (ci := 3) (q0 := 1) rfl rfl, fun U hU hW => ⟨rfl, mp_at hZ hS hPc hK hDc hFc hU hW (Or.inr rfl), by rw [hU]; exact px_at hT hS hW hFc⟩⟩ rfl rfl hl.1 rfl (lv_room (Nat.le_of_ble_eq_true rfl)) dL_ladder_5 ⟨(Nat.le_of_ble_eq_true rfl), (Nat.le_of_ble_eq_true rfl)⟩) hS hFc (fun E ce q9 H1 locs1 hE hz9 hk9 hS9 hc9 hv9 hl9 => ?_) (fun u z1 H1 locs1 hu hP1 hD1 hz1 hk1 hS1 => ?_)
  · have hP9 : va_P D vwCl (eU cJ qo f :: DW cI cO qk z g) H1 := hP.kept (fun k q hq => hk9 q.1 (hP k q hq).lt)
    have hm := hE0 E hE
    simp only [List.mem_cons, List.not_mem_nil, or_false] at hm
    subst hm
    refine vx_catch hown [] ⟨0, 10, 13, 13⟩ [] (by rw [hte]; rfl) (fun z hz => nomatch hz) (by decide) (by decide) (hts (.classLink RL 13 "java/lang/IllegalArgumentException") (by decide +kernel)) (va_Nw.use rfl (hT.2.2.2 (.castable "java/lang/IllegalArgumentException" "java/lang/IllegalArgumentException") (by decide))) hc9 hv9 hl9 ?_
    refine lv_astore (lv' := [(4, .ref q9), (0, .ref qk), (1, .int a0), (2, .int a1), (3, .ref qo)]) hx hb dL_ladder_13 hl (by decide) rfl (fun ls hl => ?_)
    refine lv_iconst (v := 1) hx hb dL_ladder_15 (by decide) ?_
    refine vx_ret ?_
    refine W.widen (k := 3) (n := 18) (Nat.le_of_ble_eq_true rfl) (Nat.le_of_ble_eq_true rfl) ?_
    have e9 : kR ["java/lang/IllegalArgumentException"] R = 1 := by rw [hE]; decide
    exact W.iret hx hb hr (fun t ht hW => ⟨z, f, by rw [e9], fun u h => (by rw [hE] at h; cases h), by rw [hE, ht]; exact hP9, by rw [hE]; exact hD, hS9.F ht⟩) hS9.2.2 dL_ladder_16
  · obtain ⟨hP, hD⟩ := wjc hP hD hA hP1 hD1 hk1
    refine lv_i2l hx hb dL_ladder_8 rfl ?_
    refine va_last hx hb hK hP hD hS1 0 1 rfl rfl in01 dL_ladder_9 (fun H locs hP hD hS => ?_)
    refine lv_goto (tgt := 17) hx hb dL_ladder_10 (by decide) ?_
    refine lv_iconst (v := 0) hx hb dL_ladder_17 (by decide) ?_
    refine vx_ret ?_
    refine W.widen (k := 3) (n := 18) (Nat.le_of_ble_eq_true rfl) (Nat.le_of_ble_eq_true rfl) ?_
    exact W.iret hx hb hr (fun t ht hW => ⟨z1, vp_updL f (0 : Int32).toNatClampNeg (u.1.toInt64), by rw [hu]; rfl, fun u1 h => (by rw [hu] at h; cases h; rfl), by rw [hu, ht]; exact hP, by rw [hu]; exact hD, hS.F ht⟩) hS.2.2 dL_ladder_18
set_option maxHeartbeats 4000000 in
set_option maxRecDepth 100000 in
theorem h_best (l : Launch) (D : va_G) (cI cJ cO : ClassId) (ah qk qo : Nat) (f : Nat → Int64) (z : AZ) (g : SG) (sz N : Nat) (a0 : Int32) (R : (Int32 × SG) ⊕ String) (hl0 : l.stackTraces = false) (hk : k_best N g a0 = some R) (hE0 : ∀ E, R = .inr E → E ∈ ["java/lang/IllegalArgumentException"]) : Met l yL_best wsL_best ({ frames := 8, cells := 1, slots := 6, locals := 166 }) (va_Pc [.ref qk, .int a0, .ref qo] (hP0 D (ty3 cI cJ cO) (some ah) (eU cJ qo f :: DW cI cO qk z g) sz)) (HQ D cI cJ cO qk qo (va_A (eU cJ qo f :: DW cI cO qk z g) sz) ["java/lang/IllegalArgumentException"] Int32.toInt64 g R) 1 6 (va_A (eU cJ qo f :: DW cI cO qk z g) sz) := by
  refine met_of_vx (vx_ofWH (hh := [(0, 9, 12, 13)]) (cc := cL_best) (maxL := 4) (ret := (some .int)) (by decide) rfl ?_)
  intro p e s m args below meth c s₁ Bd hml hv
  obtain ⟨rfl, ⟨⟨hsz, hZ, hP, hK, hD0⟩, hT⟩, hn1, hn2, hn3⟩ := hv
  have hx := Bd.exec
  have hb := Bd.bytes
  have hr := Bd.returns
  have hts := atoms_spec (ws := wsL_best) Bd.pre
  have hown : s.vm.findClass RL = some m.cls := findClass_of_methodNamed Bd.named
  have hte : c.exceptionTable.toList = [⟨0, 9, 12, 13⟩] := vx_table (x := yL_best) Bd (hts (.codeWith yL_best cL_best 4 (some .int) [(0, 9, 12, 13)]) List.mem_cons_self)
  subst hsz
  have hD := hD0.self (sz := s.heap.size)
  generalize hAe : va_A (eU cJ qo f :: DW cI cO qk z g) s.heap.size = A at hD hZ hT ⊢
  have hA : ∀ q : Nat, s.heap.size ≤ q → A q := fun q h => by rw [← hAe]; exact Or.inr h
  have hS : va_S A s.heap s.heap [] := va_S.rf
  have hl := lv_entry ([.ref qk, .int a0, .ref qo]) (n := 4) (Nat.le_of_ble_eq_true rfl)
  rw [lg_entry_eq]
  generalize (lg_sl ([.ref qk, .int a0, .ref qo]) ++ List.replicate (4 - (lg_sl ([.ref qk, .int a0, .ref qo])).length) Slot.unset).toArray = ls at hl ⊢
  have hl : lv_has ls 4 [(0, .ref qk), (1, .int a0), (2, .ref qo)] := hl
  refine lv_aload_n hx hb dL_best_0 rfl (lv_at hl 2 rfl) ?_
  refine lv_iconst (v := 0) hx hb dL_best_1 (by decide) ?_
  refine lv_aload_n hx hb dL_best_2 rfl (lv_at hl 0 rfl) ?_
  refine lv_iload_n hx hb dL_best_3 rfl (lv_at hl 1 rfl) ?_
  have hPc := wp_tail hP
  have hDc := wd_tail hD
  have hFc : ∀ q, va_A (DW cI cO qk z g) s.heap.size q → A q := va_A_of hDc hS hA
  refine xU (vx_runV (As := [.int a0]) (rest := [.int 0, .ref qo]) ⟨hx, hb, hml, hown, hts⟩ (u_best l D cI cJ cO ah qk z g s.heap.size N a0 R hl0 hk) (cwV 1 hts gL_best_X4_best rfl rfl rfl (by decide +kernel) ⟨(Nat.le_of_ble_eq_true rfl), (Nat.le_of_ble_eq_true rfl)⟩) ⟨tp_blind, va_recv hK hP (ci := 3) (q0 := 1) rfl rfl, fun U hU hW => ⟨rfl, mp_at hZ hS hPc hK hDc hFc hU hW (Or.inr rfl), by rw [hU]; exact px_at hT hS hW hFc⟩⟩ rfl rfl hl.1 rfl (lv_room (Nat.le_of_ble_eq_true rfl)) dL_best_4 ⟨(Nat.le_of_ble_eq_true rfl), (Nat.le_of_ble_eq_true rfl)⟩) hS hFc (fun E ce q9 H1 locs1 hE hz9 hk9 hS9 hc9 hv9 hl9 => ?_) (fun u z1 H1 locs1 hu hP1 hD1 hz1 hk1 hS1 => ?_)
  · have hP9 : va_P D vwCl (eU cJ qo f :: DW cI cO qk z g) H1 := hP.kept (fun k q hq => hk9 q.1 (hP k q hq).lt)
    have hm := hE0 E hE
    simp only [List.mem_cons, List.not_mem_nil, or_false] at hm
    subst hm
    refine vx_catch hown [] ⟨0, 9, 12, 13⟩ [] (by rw [hte]; rfl) (fun z hz => nomatch hz) (by decide) (by decide) (hts (.classLink RL 13 "java/lang/IllegalArgumentException") (by decide +kernel)) (va_Nw.use rfl (hT.2.2.2 (.castable "java/lang/IllegalArgumentException" "java/lang/IllegalArgumentException") (by decide))) hc9 hv9 hl9 ?_
    refine lv_astore_n (lv' := [(3, .ref q9), (0, .ref qk), (1, .int a0), (2, .ref qo)]) hx hb dL_best_12 rfl hl (by decide) rfl (fun ls hl => ?_)
    refine lv_iconst (v := 1) hx hb dL_best_13 (by decide) ?_
    refine vx_ret ?_
    refine W.widen (k := 1) (n := 6) (Nat.le_of_ble_eq_true rfl) (Nat.le_of_ble_eq_true rfl) ?_
    have e9 : kR ["java/lang/IllegalArgumentException"] R = 1 := by rw [hE]; decide
    exact W.iret hx hb hr (fun t ht hW => ⟨z, f, by rw [e9], fun u h => (by rw [hE] at h; cases h), by rw [hE, ht]; exact hP9, by rw [hE]; exact hD, hS9.F ht⟩) hS9.2.2 dL_best_14
  · obtain ⟨hP, hD⟩ := wjc hP hD hA hP1 hD1 hk1
    refine lv_i2l hx hb dL_best_7 rfl ?_
    refine va_last hx hb hK hP hD hS1 0 1 rfl rfl in01 dL_best_8 (fun H locs hP hD hS => ?_)
    refine lv_goto (tgt := 15) hx hb dL_best_9 (by decide) ?_
    refine lv_iconst (v := 0) hx hb dL_best_15 (by decide) ?_
    refine vx_ret ?_
    refine W.widen (k := 1) (n := 6) (Nat.le_of_ble_eq_true rfl) (Nat.le_of_ble_eq_true rfl) ?_
    exact W.iret hx hb hr (fun t ht hW => ⟨z1, vp_updL f (0 : Int32).toNatClampNeg (u.1.toInt64), by rw [hu]; rfl, fun u1 h => (by rw [hu] at h; cases h; rfl), by rw [hu, ht]; exact hP, by rw [hu]; exact hD, hS.F ht⟩) hS.2.2 dL_best_16
