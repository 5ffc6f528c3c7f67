/-! the law from its entry to its loop -/
theorem arr_int {args : Array Value} {s : State} {ty : FieldType} (h : (Cond.arrayClass ty).before args s = true) : ∃ c : ClassId, ArrOfT s c ty ∧ s.vm.findClass ("[" ++ ty.toString) = some c := by
  obtain ⟨c, k, comp, h1, h2, h3⟩ := Cond.arrayClass_spec h
  exact ⟨c, fun N z => ⟨(fun k h => by cases h), k, h2, comp, h3⟩, h1⟩
theorem arr_obj {args : Array Value} {s : State} {C : String} (h : (Cond.arrayOver (.object C)).before args s = true) : ∃ c : ClassId, ArrOfT s c (.object C) ∧ va_RA s c (.object C) := by
  obtain ⟨comp, c, k, h1, h2, h3, h4, h5⟩ := Cond.arrayOver_spec h
  exact ⟨c, fun N z => ⟨(fun k h => by cases h), k, h3, comp, h4⟩, k, comp, h3, h4, h1, h5⟩
theorem st_ah : ∀ j : Nat, j < 12 → (Cond.eq (.elem (.static "BondDesk$Dates" "AHEAD" "[I") (.int (Int32.ofNat j))) (.int (ahd j))) ∈ flatC (Jvm.Cond.and given_1 narrow_1) := by
  intro j hj
  rcases (show j = 0 ∨ j = 1 ∨ j = 2 ∨ j = 3 ∨ j = 4 ∨ j = 5 ∨ j = 6 ∨ j = 7 ∨ j = 8 ∨ j = 9 ∨ j = 10 ∨ j = 11 by omega) with rfl | rfl | rfl | rfl | rfl | rfl | rfl | rfl | rfl | rfl | rfl | rfl <;> decide +kernel
theorem st_sr : ∀ q ∈ thr_tx, Cond.stringRef RX4 q.1 q.2 ∈ lw_tbl := by decide +kernel
theorem st_se : ∀ q ∈ thr_tx, Cond.exactly (.string RX4 q.1) "java/lang/String" ∈ flatC (Jvm.Cond.and given_1 narrow_1) := by decide +kernel
theorem st_bw : ∀ w ∈ thr_bw, w ∈ lw_tbl := by decide +kernel
theorem st_ls1 : Cond.laysStatic Bundle.tN "UNASSIGNED_STACK" Bundle.steD ∈ lw_tbl := by decide +kernel
theorem st_ls2 : Cond.laysStatic Bundle.tN "SUPPRESSED_SENTINEL" Bundle.listD ∈ lw_tbl := by decide +kernel
theorem st_in : Cond.initialized Bundle.tN ∈ lw_tbl := by decide +kernel
theorem st_r1 : Cond.isRef (.static Bundle.tN "UNASSIGNED_STACK" Bundle.steD) ∈ flatC (Jvm.Cond.and given_1 narrow_1) := by decide +kernel
theorem st_r2 : Cond.isRef (.static Bundle.tN "SUPPRESSED_SENTINEL" Bundle.listD) ∈ flatC (Jvm.Cond.and given_1 narrow_1) := by decide +kernel
theorem st_n1 : Cond.not (.castable "java/lang/IllegalArgumentException" "java/lang/IndexOutOfBoundsException") ∈ flatC (Jvm.Cond.and given_1 narrow_1) := by decide +kernel
theorem st_n2 : Cond.not (.castable "java/lang/IllegalStateException" "java/lang/IndexOutOfBoundsException") ∈ flatC (Jvm.Cond.and given_1 narrow_1) := by decide +kernel
theorem st_n3 : Cond.not (.castable "java/lang/IllegalStateException" "java/lang/IllegalArgumentException") ∈ flatC (Jvm.Cond.and given_1 narrow_1) := by decide +kernel
theorem st_ai : Cond.arrayClass .int ∈ lw_tbl := by decide +kernel
theorem st_aj : Cond.arrayClass .long ∈ lw_tbl := by decide +kernel
theorem st_ao : Cond.arrayOver (.object RX0) ∈ lw_tbl := by decide +kernel
theorem st_nl : Cond.methodLinkNest RX4 21 yX2_init RX4 ∈ lw_tbl := by decide +kernel
theorem st_i0 : Cond.instantiable RX0 9 ∈ lw_tbl := by decide +kernel
theorem st_i2 : Cond.instantiable RX2 4 ∈ lw_tbl := by decide +kernel
theorem st_i3 : Cond.instantiable RX3 9 ∈ lw_tbl := by decide +kernel
theorem st_i4 : Cond.instantiable RX4 8 ∈ lw_tbl := by decide +kernel
theorem st_i5 : Cond.instantiable RX5 10 ∈ lw_tbl := by decide +kernel
theorem st_ld : Cond.laysStatic "BondDesk$Dates" "AHEAD" "[I" ∈ lw_tbl := by decide +kernel
theorem st_di : Cond.initialized "BondDesk$Dates" ∈ lw_tbl := by decide +kernel
theorem st_ar : Cond.arrayOf (.static "BondDesk$Dates" "AHEAD" "[I") .int ∈ flatC (Jvm.Cond.and given_1 narrow_1) := by decide +kernel
theorem st_al : Cond.eq (.length (.static "BondDesk$Dates" "AHEAD" "[I")) (.int 12) ∈ flatC (Jvm.Cond.and given_1 narrow_1) := by decide +kernel
set_option maxHeartbeats 4000000 in
theorem lw_env {p : Program} {s : State} {m : MethodId} {meth : Method} {c : Code} (l : Launch) (hflags : l.flags = flags0) {b L : Nat} {xs : Nat → Int32} (C0 : lw_At p s m meth c b L xs) : ∃ (D : va_G) (cI cJ cO : ClassId) (ah : Nat), LE p s l m meth c b L xs D cI cJ cO ah := by
  obtain ⟨hx, hb, hr, hml, hown, hts, hX, hbl, hlocks, hgv⟩ := id C0
  have hs := flat_of_before _ hgv
  have htl : ∀ w ∈ wsL_law, w.before #[Value.ref b] s = true := fun w h => hts w (wsL_law_in w h)
  obtain ⟨c0, iS0, k0⟩ := u_known (C := RX0) (T := TX0) (N := 9) (n := 9) hts inWX0 (hts _ st_i0)
  obtain ⟨c2, iS2, k2⟩ := u_known (C := RX2) (T := TX2) (N := 4) (n := 4) hts inWX2 (hts _ st_i2)
  obtain ⟨c3, iS3, k3⟩ := u_known (C := RX3) (T := TX3) (N := 9) (n := 9) hts inWX3 (hts _ st_i3)
  obtain ⟨c4, iS4, k4⟩ := u_known (C := RX4) (T := TX4) (N := 8) (n := 8) hts inWX4 (hts _ st_i4)
  obtain ⟨c5, iS5, k5⟩ := u_known (C := RX5) (T := TX5) (N := 10) (n := 10) hts inWX5 (hts _ st_i5)
  obtain ⟨cI, aI, fI⟩ := arr_int (hts _ st_ai)
  obtain ⟨cJ, aJ, fJ⟩ := arr_int (hts _ st_aj)
  obtain ⟨cO, aO, rO⟩ := arr_obj (hts _ st_ao)
  have hK : va_K (fun k => if k = 0 then c0 else if k = 1 then c2 else if k = 2 then c3 else if k = 3 then c4 else c5, fun k => if k = 0 then iS0 else if k = 1 then iS2 else if k = 2 then iS3 else if k = 3 then iS4 else iS5) vwCl (ty3 cI cJ cO) s := by
    refine ⟨fun k q hq => ?_, fun k q hq => ?_⟩
    · match k, hq with
      | 0, hq => cases hq; exact k0
      | 1, hq => cases hq; exact k2
      | 2, hq => cases hq; exact k3
      | 3, hq => cases hq; exact k4
      | 4, hq => cases hq; exact k5
      | n + 5, hq => simp [vwCl] at hq
    · match k, hq with
      | 0, hq => cases hq; exact ⟨aI, fI⟩
      | 1, hq => cases hq; exact ⟨aJ, fJ⟩
      | 2, hq => cases hq; exact ⟨aO, rO⟩
      | n + 3, hq => simp [ty3] at hq
  have hA : ∀ a : Nat, a < s.heap.size → ¬ (fun q : Nat => s.heap.size ≤ q) a := fun a h => Nat.not_le.mpr h
  obtain ⟨ah, hev, hT⟩ := va_Tof (N := 12) (f := fun k => .int (ahd k)) (A := fun q : Nat => s.heap.size ≤ q) (by decide) (hs _ st_ar) (va_eqt (hs _ st_al)) (fun j hj => va_eqt (hs _ (st_ah j hj))) hA
  have hZ := va_Zref (hts _ st_ld) (hts _ st_di) hev hA
  refine ⟨_, cI, cJ, cO, ah, hx, hb, hml, hown, htl, hX, hbl, hK, fun a e => ?_, ⟨vx_Zqof (hts _ st_ls1) (hts _ st_in) (hs _ st_r1) hA, vx_Zqof (hts _ st_ls2) (hts _ st_in) (hs _ st_r2) hA, fun q hq => ?_, fun w hw => va_Nw.of (thr_ot w hw) (hts w (st_bw w hw))⟩, ⟨va_Nc.of (hs _ st_n1), va_Nc.of (hs _ st_n2), va_Nc.of (hs _ st_n3)⟩, ?_⟩
  · cases e; exact ⟨hZ, hT⟩
  · obtain ⟨a, _, _, _, h, _⟩ := Cond.exactly_spec (hs _ (st_se q hq))
    exact ⟨a, vk_R.of (hts _ (st_sr q hq)) h⟩
  · rw [Launch.stackTraces, hflags]
    simp [flags0]
abbrev g00 : SG := (va_up (va_up (fun _ => 0) 5 (20260101 : Int32)) 7 (300 : Int32), (200000000 : Int64), fun _ => 0, fun _ => 0, 0, fun _ _ => 0, fun _ _ => 0, fun _ _ => 0, fun _ => 0, fun _ _ => 0)
set_option maxHeartbeats 8000000 in
set_option maxRecDepth 100000 in
theorem lw_start {p : Program} {e : Env} {s : State} {m : MethodId} {below : List Frame} {meth : Method} {c : Code} (l : Launch) (hflags : l.flags = flags0) {b L : Nat} {xs : Nat → Int32} (hL : L ≤ 3072) (C0 : lw_At p s m meth c b L xs) {N : Nat} {Inv : SG → SM → Prop} (hOk : OkAll N Inv) {r5 : (Nat → Int32) × Int64} (h5 : f_X5_init N = some r5) (hI0 : Inv g00 (r5.1, r5.2, fun _ => 0, fun _ => 0, fun _ => 0, fun _ => 0)) : W p l e room_1 s m #[Value.ref b] below meth c s.heap [] 0 0 (lw_Z below #[Value.ref b] s) (entryFrame m ([Value.ref b] : List Value).toArray 9) := by
  obtain ⟨D, cI, cJ, cO, ah, E⟩ := lw_env l hflags C0
  obtain ⟨hx, hb, hr, hml, hown, hts, hX, hbl, hlocks, hgv⟩ := id C0
  obtain ⟨-, -, -, -, htl, -, -, hK, hZ, hT, hNc, hl0⟩ := id E
  have hA : ∀ q : Nat, s.heap.size ≤ q → (fun q : Nat => s.heap.size ≤ q) q := fun _ h => h
  have hS : va_S (fun q : Nat => s.heap.size ≤ q) s.heap s.heap [] := va_S.rf
  have hP : va_P D vwCl [] s.heap := fun k q h => by simp at h
  have hD : va_D (fun q : Nat => s.heap.size ≤ q) [] := ⟨fun i j p q h => by simp at h, fun k q h => by simp at h⟩
  have hl := lv_entry ([.ref b]) (n := 9) (Nat.le_of_ble_eq_true rfl)
  rw [lg_entry_eq]
  generalize (lg_sl ([.ref b]) ++ List.replicate (9 - (lg_sl ([.ref b])).length) Slot.unset).toArray = ls at hl ⊢
  have hl : lv_has ls 9 [(0, .ref b)] := hl
  refine va_new (ci := 3) (fs := [.null, .null, .null, .int 0, .int 0, .int 0, .long 0, .int 0]) (C := RX4) (T := TX4) (N := 8) hx hb hts inWX4 tyX4 tyX4_ok hown (hts (.classLink RL 8 RX4) (by decide +kernel)) (hts _ st_i4) (hts (.initialized RX4) (by decide +kernel)) hK hP hD hS hA rfl (fun j hj => by rcases (show j = 0 ∨ j = 1 ∨ j = 2 ∨ j = 3 ∨ j = 4 ∨ j = 5 ∨ j = 6 ∨ j = 7 by omega) with rfl | rfl | rfl | rfl | rfl | rfl | rfl | rfl <;> rfl) (Nat.le_of_ble_eq_true rfl) (Nat.le_of_ble_eq_true rfl) dL_law_0 (fun qk H hP hD hS => ?_)
  have hP : va_P D vwCl [eKr qk .null .null .null (fun _ => 0) 0] H := hP
  have hD : va_D (fun q : Nat => s.heap.size ≤ q) [eKr qk .null .null .null (fun _ => 0) 0] := hD
  refine W.widen (k := 1) (n := 8) (Nat.le_of_ble_eq_true rfl) (Nat.le_of_ble_eq_true rfl) ?_
  refine lv_dup hx hb dL_law_3 rfl ?_
  have hFc : ∀ q, va_A [eKr qk .null .null .null (fun _ => 0) 0] H.size q → s.heap.size ≤ q := va_A_of hD hS hA
  refine va_callv (va_runI (As := []) (rest := [.ref qk]) ⟨hx, hb, hml, hown, htl⟩ (m_X4_init l D cI cJ cO ah qk H.size _ rfl) (cwI 0 htl gL_law_X4_init rfl rfl rfl (hts (.initialized RX4) (by decide +kernel)) (hts (.methodLink RL 87 yX4_init) (by decide +kernel)) (hts (.instanceMethod yX4_init) (by decide +kernel)) rfl (by decide +kernel) ⟨Nat.le_of_ble_eq_true rfl, Nat.le_of_ble_eq_true rfl⟩) ⟨ip_blind, fun U hU hW => ⟨rfl, mp_at hZ hS hP hK hD hFc hU hW (Or.inl rfl), va_AO.moved hW.alike (va_AO.of (hts _ st_ao)), va_Nw.warmM hW (va_Nw.of rfl (hts _ st_nl))⟩⟩ rfl rfl hl.1 rfl (lv_room (Nat.le_of_ble_eq_true rfl)) dL_law_4 ⟨Nat.le_of_ble_eq_true rfl, Nat.le_of_ble_eq_true rfl⟩) hS (fun q _ h => hFc q h) hFc (fun u t H1 locs ht9 hvm hw hBx hz1 hk1 hS => ?_)
  obtain ⟨hP1, hD1⟩ := hBx
  rw [ht9] at hP1
  have hf : (fun _ : Nat => (none : Option Nat)) = fun i => if i < 0 then some ((fun _ : Nat => (0 : Nat)) i) else none := by funext i; rw [if_neg (Nat.not_lt_zero i)]
  rw [hf] at hP1 hD1
  have hP : va_P D vwCl (DW cI cO qk (u.1, u.2.1, u.2.2, fun _ => 0, fun _ => 0, fun _ => 0) g00) H1 := hP1
  have hD : va_D (fun q : Nat => s.heap.size ≤ q) (DW cI cO qk (u.1, u.2.1, u.2.2, fun _ => 0, fun _ => 0, fun _ => 0) g00) := va_D.weaken hD1 (fun k q _ h => hFc _ h)
  refine lv_astore_n (lv' := [(1, .ref qk), (0, .ref b)]) hx hb dL_law_7 rfl hl (by decide) rfl (fun ls hl => ?_)
  refine va_new (ci := 4) (fs := [.int 0, .int 0, .long 0, .int 0, .int 0, .int 0, .null, .null, .null, .null]) (C := RX5) (T := TX5) (N := 10) hx hb hts inWX5 tyX5 tyX5_ok hown (hts (.classLink RL 88 RX5) (by decide +kernel)) (hts _ st_i5) (hts (.initialized RX5) (by decide +kernel)) hK hP hD hS hA rfl (fun j hj => by rcases (show j = 0 ∨ j = 1 ∨ j = 2 ∨ j = 3 ∨ j = 4 ∨ j = 5 ∨ j = 6 ∨ j = 7 ∨ j = 8 ∨ j = 9 by omega) with rfl | rfl | rfl | rfl | rfl | rfl | rfl | rfl | rfl | rfl <;> rfl) (Nat.le_of_ble_eq_true rfl) (Nat.le_of_ble_eq_true rfl) dL_law_8 (fun hm H hP hD hS => ?_)
  have hP : va_P D vwCl (DW cI cO qk (u.1, u.2.1, u.2.2, fun _ => 0, fun _ => 0, fun _ => 0) g00 ++ [eMr hm .null .null .null .null (fun _ => 0) 0]) H := hP
  have hD : va_D (fun q : Nat => s.heap.size ≤ q) (DW cI cO qk (u.1, u.2.1, u.2.2, fun _ => 0, fun _ => 0, fun _ => 0) g00 ++ [eMr hm .null .null .null .null (fun _ => 0) 0]) := hD
  refine W.widen (k := 5) (n := 62) (Nat.le_of_ble_eq_true rfl) (Nat.le_of_ble_eq_true rfl) ?_
  refine lv_dup hx hb dL_law_11 rfl ?_
  have hPy := wp_r hP
  have hDy := wd_r hD
  have hFy : ∀ q, va_A [eMr hm .null .null .null .null (fun _ => 0) 0] H.size q → s.heap.size ≤ q := va_A_of hDy hS hA
  have hS0 := hS
  refine va_callv (va_runI (As := []) (rest := [.ref hm]) ⟨hx, hb, hml, hown, htl⟩ (m_X5_init l D cI cJ cO hm H.size N r5 h5) (cwI 0 htl gL_law_X5_init rfl rfl rfl (hts (.initialized RX5) (by decide +kernel)) (hts (.methodLink RL 90 yX5_init) (by decide +kernel)) (hts (.instanceMethod yX5_init) (by decide +kernel)) rfl (by decide +kernel) ⟨Nat.le_of_ble_eq_true rfl, Nat.le_of_ble_eq_true rfl⟩) ⟨mp_blind, fun U hU hW => ⟨rfl, mp_at hZ hS hPy hK hDy hFy hU hW (Or.inl rfl)⟩⟩ rfl rfl hl.1 rfl (lv_room (Nat.le_of_ble_eq_true rfl)) dL_law_12 ⟨Nat.le_of_ble_eq_true rfl, Nat.le_of_ble_eq_true rfl⟩) hS (fun q _ h => hFy q h) hFy (fun y t H2 locs ht9 hvm hw hBx hz2 hk2 hS => ?_)
  obtain ⟨hP2, hD2⟩ := hBx
  rw [ht9] at hP2
  obtain ⟨hP, hD⟩ := wjr hP hD (fun q h => Nat.le_trans hS0.1 h) hP2 hD2 hk2
  refine lv_astore_n (lv' := [(2, .ref hm), (1, .ref qk), (0, .ref b)]) hx hb dL_law_15 rfl hl (by decide) rfl (fun ls hl => ?_)
  refine lv_iconst (v := 1) hx hb dL_law_16 (by decide) ?_
  refine va_newa (atype := .long) (a0 := (1, .inr (.inl (fun _ => 0)))) hx hb (hts _ st_aj) rfl hK hP hD hS hA (fun _ => rfl) (by decide) rfl (Nat.le_of_ble_eq_true rfl) (Nat.le_of_ble_eq_true rfl) (Nat.le_of_ble_eq_true rfl) dL_law_17 (fun qo cA H hK2 hP hD hS => ?_)
  obtain rfl := ka_eq hK2 (by decide) 1 3 rfl rfl
  have hp9 := List.perm_append_comm (l₁ := DW cI cO qk (u.1, u.2.1, u.2.2, fun _ => 0, fun _ => 0, fun _ => 0) g00 ++ YW cI cJ hm y (r5.1, r5.2, fun _ => 0, fun _ => 0, fun _ => 0, fun _ => 0)) (l₂ := [eU cJ qo (fun _ => 0)])
  have hP : va_P D vwCl (WL cI cJ cO qk qo hm (u.1, u.2.1, u.2.2, fun _ => 0, fun _ => 0, fun _ => 0) (fun _ => 0) g00 y (r5.1, r5.2, fun _ => 0, fun _ => 0, fun _ => 0, fun _ => 0)) H := vp_perm hp9 hP
  have hD : va_D (fun q : Nat => s.heap.size ≤ q) (WL cI cJ cO qk qo hm (u.1, u.2.1, u.2.2, fun _ => 0, fun _ => 0, fun _ => 0) (fun _ => 0) g00 y (r5.1, r5.2, fun _ => 0, fun _ => 0, fun _ => 0, fun _ => 0)) := vd_perm hp9 hD
  refine lv_astore_n (lv' := [(3, .ref qo), (2, .ref hm), (1, .ref qk), (0, .ref b)]) hx hb dL_law_19 rfl hl (by decide) rfl (fun ls hl => ?_)
  refine lv_iconst (v := 0) hx hb dL_law_20 (by decide) ?_
  refine lv_istore (lv' := [(4, .int 0), (3, .ref qo), (2, .ref hm), (1, .ref qk), (0, .ref b)]) hx hb dL_law_21 hl (by decide) rfl (fun ls hl => ?_)
  exact lw_loop E hr hlocks hL hOk 600 0 (by omega) (by omega) _ _ (Nat.le_of_ble_eq_true rfl) (Nat.le_of_ble_eq_true rfl) H _ _ _ g00 _ hI0 hP hD hS ls (lv_sub hl [0, 4, 3, 2, 1] rfl)
