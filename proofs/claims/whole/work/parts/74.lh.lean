/-! the law's helpers: a call of the class with its throws caught -/
abbrev eU (cJ : ClassId) (qo : Nat) (f : Nat → Int64) : Nat × va_E := (qo, .inl (cJ, 1, .inr (.inl f)))
def kE : Int32 → List String → String → Int32
  | _, [], _ => 0
  | n, c :: cs, E => if E = c then n else kE (n + 1) cs E
def kR {α : Type} (cs : List String) (R : (α × SG) ⊕ String) : Int32 := match R with
  | .inl _ => 0
  | .inr E => kE 1 cs E
def gR {α : Type} (g : SG) (R : (α × SG) ⊕ String) : SG := match R with
  | .inl u => u.2
  | .inr _ => g
def ncs (U : State) : Prop := va_Nc "java/lang/IllegalArgumentException" "java/lang/IndexOutOfBoundsException" U ∧ va_Nc "java/lang/IllegalStateException" "java/lang/IndexOutOfBoundsException" U ∧ va_Nc "java/lang/IllegalStateException" "java/lang/IllegalArgumentException" U
theorem ncs_moved {u U : State} (hvm : u.vm.Alike U.vm) (h : ncs u) : ncs U := ⟨va_Nc.moved hvm h.1, va_Nc.moved hvm h.2.1, va_Nc.moved hvm h.2.2⟩
def hP0 (D : va_G) (tys : List (ClassId × FieldType)) (zs : Option Nat) (ws : va_W) (sz : Nat) (U : State) : Prop := tP D tys zs ws sz U ∧ ncs U
theorem hp_blind {av : List Value} {D : va_G} {tys : List (ClassId × FieldType)} {zs : Option Nat} {ws : va_W} {sz : Nat} : FrameBlind (va_Pc av (hP0 D tys zs ws sz)) := fun a U g mk q => ⟨q.1, ⟨mP_calling q.2.1.1, px_calling q.2.1.2⟩, ncs_moved (u := U) (U := U.calling g mk a) (Vm.Alike.refl U.vm) q.2.2⟩
def HQ {α : Type} (D : va_G) (cI cJ cO : ClassId) (qk qo : Nat) (A : Nat → Prop) (cs : List String) (lng : α → Int64) (g : SG) (R : (α × SG) ⊕ String) : Array Value → State → Outcome → State → Prop := fun _ st o t => ∃ (z : AZ) (f : Nat → Int64), o = .returned (some (.int (kR cs R))) ∧ (∀ u, R = .inl u → f 0 = lng u.1) ∧ va_P D vwCl (eU cJ qo f :: DW cI cO qk z (gR g R)) t.heap ∧ va_D A (eU cJ qo f :: DW cI cO qk z (gR g R)) ∧ va_F A st t
theorem met_of_vx {l : Launch} {y : MethodName} {ws : List Cond} {rm : Room} {Pc : Array Value → State → Prop} {Qc : Array Value → State → Outcome → State → Prop} {mc ms : Nat} {free : Addr → Prop} (h : vx_Met l y ws rm Pc Qc (fun _ _ _ => False) mc ms free) : Met l y ws rm Pc Qc mc ms free := by
  refine MetFree.mono h (fun _ _ h => h) (fun _ _ _ _ _ k => k) (fun a s o t hp hq => ?_)
  rcases hq with h1 | ⟨q, e, E, ce, L, hx, r1⟩
  · exact h1
  · exact hx.elim
theorem wjc {D : va_G} {cl : List vw_C} {A0 : Nat → Prop} {e : Nat × va_E} {X X' : va_W} {H H1 : Heap} (hP : va_P D cl (e :: X) H) (hD : va_D A0 (e :: X)) (hA : ∀ q, H.size ≤ q → A0 q) (hP' : va_P D cl X' H1) (hD' : va_D (va_A X H.size) X') (hk : ∀ q : Nat, q < H.size → ¬ va_A X H.size q → H1[q]? = H[q]?) : va_P D cl (e :: X') H1 ∧ va_D A0 (e :: X') := by
  have p1 : (e :: X).Perm (X ++ [e]) := List.perm_append_comm (l₁ := [e]) (l₂ := X)
  have p2 : (X' ++ [e]).Perm (e :: X') := List.perm_append_comm (l₁ := X') (l₂ := [e])
  obtain ⟨j1, j2⟩ := wj (vp_perm p1 hP) (vd_perm p1 hD) hA hP' hD' hk
  exact ⟨vp_perm p2 j1, vd_perm p2 j2⟩
theorem wd_tail {A : Nat → Prop} {e : Nat × va_E} {X : va_W} (h : va_D A (e :: X)) : va_D A X := by
  obtain ⟨h1, h2⟩ := vd_pw.mp h
  exact vd_pw.mpr ⟨(List.pairwise_cons.mp h1).2, fun q hq => h2 q (List.mem_cons_of_mem _ hq)⟩
theorem wp_tail {D : va_G} {cl : List vw_C} {e : Nat × va_E} {X : va_W} {H : Heap} (h : va_P D cl (e :: X) H) : va_P D cl X H := vp_mem.mpr fun q hq => vp_mem.mp h q (List.mem_cons_of_mem _ hq)
section RU
variable {p : Program} {l : Launch} {e : Env} {R : Room} {s : State} {m : MethodId} {args : Array Value} {below : List Frame} {meth : Method} {c : Code} {H : Heap} {locs : List Loc} {cells slots : Nat} {Q : State → Prop}
variable {pc : Nat} {ls : Array Slot} {rest st0 : List Value} {a : Array Value} {mc ms : Nat} {D : va_G} {cI cO : ClassId} {qk : Nat} {A0 A1 : Nat → Prop} {H0 : Heap}
theorem xU {α : Type} {mk : α → Value} {rr : (α × SG) ⊕ String} (hr : vx_Run p l e R s m args below meth c H locs cells slots mc ms (F0 m pc ls st0) rest (UQ D cI cO qk A1 mk rr a) (XT rr) A1) (hS : va_S A0 H0 H locs) (hf : ∀ q, A1 q → A0 q)
    (kx : ∀ (E : String) (ce : Cell) (q9 : Addr) (H1 : Heap) (locs1 : List Loc), rr = .inr E → H.size ≤ H1.size → (∀ q : Nat, q < H.size → H1[q]? = H[q]?) → va_S A0 H0 H1 locs1 → H1[q9]? = some ce → ce.vm = .none → s.vm.findClass E = some ce.cls → vx_W p l e R s m args below meth c H1 locs1 (cells + mc) (slots + ms) Q (F0 m pc ls rest) q9)
    (kk : ∀ (u : α × SG) (z : AZ) (H1 : Heap) (locs1 : List Loc), rr = .inl u → va_P D vwCl (DW cI cO qk z u.2) H1 → va_D A1 (DW cI cO qk z u.2) → H.size ≤ H1.size → (∀ q : Nat, q < H.size → ¬ A1 q → H1[q]? = H[q]?) → va_S A0 H0 H1 locs1 → W p l e R s m args below meth c H1 locs1 (cells + mc) (slots + ms) Q (F0 m (pc + 3) ls (mk u.1 :: rest))) : W p l e R s m args below meth c H locs cells slots Q (F0 m pc ls st0) := by
  intro T hT X
  rcases hr T hT X with ⟨v, st₀, t, T', L, h0, X', hL, e1, e2, ⟨u, hu, hv, z, hP, hD, hF⟩, st⟩ | ⟨q, st₀, t, T', L, E, ce, h0, X', hL, e1, e2, ⟨hE, hF⟩, hce, hcv, hcl, st⟩
  · cases hv
    obtain ⟨k1, k2, k3⟩ := vx_keep h0 e1 hS (fun q _ h => hf q h) hf hL hF
    obtain ⟨t2, a1, b1⟩ := kk u z T'.heap (locs ++ L) hu (by rw [e1]; exact hP) hD k1 k2 k3 T' rfl X'
    exact ⟨t2, st t2 a1, b1⟩
  · obtain ⟨k1, k2, k3⟩ := vx_keep (A1 := fun _ => False) h0 e1 hS (fun q _ h => h.elim) hf hL hF
    obtain ⟨t2, a1, b1⟩ := kx E ce q T'.heap (locs ++ L) hE k1 (fun q h => k2 q h (fun f => f)) k3 (by rw [e1]; exact hce) hcv hcl T' rfl X'
    exact ⟨t2, st.trans a1, b1⟩
end RU
set_option maxRecDepth 20000 in
theorem ggL_later_X4_later : GoodIn wsL_later wsX4_later := goodIn_ca (goodIn_r _ [6, 7, 8, 9, 10, 11, 5, 12, 13, 14, 15, 16, 17, 18, 19, 20, 21, 22, 23, 24, 25, 26, 27, 28, 29, 30, 31, 32, 33, 34, 35, 36, 37] (by decide +kernel) (by decide +kernel)) (goodIn_sub (fun _ h => List.mem_cons_of_mem _ (List.mem_append_right _ h)) (by decide +kernel))
set_option maxRecDepth 20000 in
theorem gL_later_X4_later : GoodIn wsL_later (wsV RL 7 RX4 yX4_later wsX4_later) := goodIn_app (goodIn_of _ (by decide +kernel)) ggL_later_X4_later
set_option maxRecDepth 20000 in
theorem ggL_weekday_X4_weekday : GoodIn wsL_weekday wsX4_weekday := goodIn_ca (goodIn_r _ [6, 7, 8, 5, 9, 10, 11, 12, 13, 14, 15, 16, 17, 18, 19, 20, 21, 22, 23, 24, 25, 26, 27, 28, 29, 30, 31, 32, 33, 34, 35, 36] (by decide +kernel) (by decide +kernel)) (goodIn_sub (fun _ h => List.mem_cons_of_mem _ (List.mem_append_right _ h)) (by decide +kernel))
set_option maxRecDepth 20000 in
theorem gL_weekday_X4_weekday : GoodIn wsL_weekday (wsV RL 15 RX4 yX4_weekday wsX4_weekday) := goodIn_app (goodIn_of _ (by decide +kernel)) ggL_weekday_X4_weekday
set_option maxRecDepth 20000 in
theorem ggL_addHoliday_X4_addHoliday : GoodIn wsL_addHoliday wsX4_addHoliday := goodIn_ca (goodIn_ca (goodIn_r _ [7, 8, 9, 10, 11, 12, 13, 6, 14, 15, 16, 17, 18, 19, 20, 21, 22, 23, 24, 25, 26, 27, 28, 29, 30, 31, 32, 33, 34, 35, 36, 37, 38, 39, 40, 41, 42, 43, 44, 45, 46] (by decide +kernel) (by decide +kernel)) (goodIn_sub (fun _ h => List.mem_cons_of_mem _ (List.mem_append_left _ (List.mem_append_right _ h))) (by decide +kernel))) (goodIn_sub (fun _ h => List.mem_cons_of_mem _ (List.mem_append_right _ h)) (by decide +kernel))
set_option maxRecDepth 20000 in
theorem gL_addHoliday_X4_addHoliday : GoodIn wsL_addHoliday (wsV RL 19 RX4 yX4_addHoliday wsX4_addHoliday) := goodIn_app (goodIn_of _ (by decide +kernel)) ggL_addHoliday_X4_addHoliday
set_option maxRecDepth 20000 in
theorem ggL_working_X4_working : GoodIn wsL_working wsX4_working := goodIn_ca (goodIn_r _ [6, 7, 8, 9, 10, 11, 5, 12, 13, 14, 15, 16, 17, 18, 19, 20, 21, 22, 23, 24, 25, 26, 27, 28, 29, 30, 31, 32, 33, 34, 35, 36, 37, 38, 39, 40, 41, 42, 43, 44, 45, 46, 47, 48, 49, 50, 51, 52, 53, 54, 55, 56, 57, 58, 59, 60, 61] (by decide +kernel) (by decide +kernel)) (goodIn_sub (fun _ h => List.mem_cons_of_mem _ (List.mem_append_right _ h)) (by decide +kernel))
set_option maxRecDepth 20000 in
theorem gL_working_X4_working : GoodIn wsL_working (wsV RL 24 RX4 yX4_working wsX4_working) := goodIn_app (goodIn_of _ (by decide +kernel)) ggL_working_X4_working
set_option maxRecDepth 20000 in
theorem ggL_addBond_X4_addBond : GoodIn wsL_addBond wsX4_addBond := goodIn_ca (goodIn_ca (goodIn_r _ [7, 8, 9, 10, 11, 12, 13, 14, 15, 16, 17, 18, 19, 20, 21, 22, 23, 24, 6, 25, 26, 27, 28, 29, 30, 31, 32, 33, 34, 35, 36, 37, 38, 39, 40, 41, 42, 43, 44, 45, 46, 47, 48, 49, 50, 51, 52, 53, 54, 55, 56, 57, 58, 59, 60, 61, 62, 63, 64, 65, 66, 67, 68, 69, 70, 71, 72, 73, 74, 75, 76, 77, 78, 79, 80, 81, 82, 83, 84, 85, 86, 87, 88, 89, 90, 91, 92, 93, 94, 95, 96, 97, 98, 99, 100, 101, 102, 103, 104, 105, 106, 107, 108, 109, 110, 111, 112, 113, 114, 115, 116, 117, 118, 119, 120, 121, 122, 123, 124, 125, 126, 127, 128, 129, 130, 131, 132, 133, 134, 135, 136, 137, 138, 139, 140, 141, 142, 143, 144, 145] (by decide +kernel) (by decide +kernel)) (goodIn_sub (fun _ h => List.mem_cons_of_mem _ (List.mem_append_left _ (List.mem_append_right _ h))) (by decide +kernel))) (goodIn_sub (fun _ h => List.mem_cons_of_mem _ (List.mem_append_right _ h)) (by decide +kernel))
set_option maxRecDepth 20000 in
theorem gL_addBond_X4_addBond : GoodIn wsL_addBond (wsV RL 27 RX4 yX4_addBond wsX4_addBond) := goodIn_app (goodIn_of _ (by decide +kernel)) ggL_addBond_X4_addBond
set_option maxRecDepth 20000 in
theorem ggL_setSink_X4_setSink : GoodIn wsL_setSink wsX4_setSink := goodIn_ca (goodIn_ca (goodIn_ca (goodIn_r _ [8, 9, 10, 11, 12, 13, 14, 15, 16, 17, 7, 18, 19, 20, 21, 22, 23, 24, 25, 26, 27, 28, 29, 30, 31, 32, 33, 34, 35, 36, 37, 38, 39, 40, 41, 42, 43, 44, 45, 46, 47, 48, 49, 50, 51, 52, 53, 54, 55, 56, 57, 58, 59, 60, 61, 62, 63, 64, 65, 66, 67, 68, 69, 70, 71, 72, 73, 74, 75, 76, 77, 78, 79, 80, 81, 82, 83, 84, 85, 86, 87, 88, 89, 90, 91, 92, 93, 94, 95, 96, 97] (by decide +kernel) (by decide +kernel)) (goodIn_sub (fun _ h => List.mem_cons_of_mem _ (List.mem_append_left _ (List.mem_append_left _ (List.mem_append_right _ h)))) (by decide +kernel))) (goodIn_sub (fun _ h => List.mem_cons_of_mem _ (List.mem_append_left _ (List.mem_append_right _ h))) (by decide +kernel))) (goodIn_sub (fun _ h => List.mem_cons_of_mem _ (List.mem_append_right _ h)) (by decide +kernel))
set_option maxRecDepth 20000 in
theorem gL_setSink_X4_setSink : GoodIn wsL_setSink (wsV RL 31 RX4 yX4_setSink wsX4_setSink) := goodIn_app (goodIn_of _ (by decide +kernel)) ggL_setSink_X4_setSink
set_option maxRecDepth 20000 in
theorem ggL_setCall_X4_setCall : GoodIn wsL_setCall wsX4_setCall := goodIn_ca (goodIn_ca (goodIn_ca (goodIn_r _ [8, 9, 10, 11, 12, 13, 14, 15, 7, 16, 17, 18, 19, 20, 21, 22, 23, 24, 25, 26, 27, 28, 29, 30, 31, 32, 33, 34, 35, 36, 37, 38, 39, 40, 41, 42, 43, 44, 45, 46, 47, 48, 49, 50, 51, 52, 53, 54, 55, 56, 57, 58, 59, 60, 61, 62, 63, 64, 65, 66, 67, 68, 69, 70, 71, 72, 73, 74, 75, 76, 77, 78, 79, 80, 81, 82, 83, 84, 85, 86, 87, 88, 89, 90] (by decide +kernel) (by decide +kernel)) (goodIn_sub (fun _ h => List.mem_cons_of_mem _ (List.mem_append_left _ (List.mem_append_left _ (List.mem_append_right _ h)))) (by decide +kernel))) (goodIn_sub (fun _ h => List.mem_cons_of_mem _ (List.mem_append_left _ (List.mem_append_right _ h))) (by decide +kernel))) (goodIn_sub (fun _ h => List.mem_cons_of_mem _ (List.mem_append_right _ h)) (by decide +kernel))
set_option maxRecDepth 20000 in
theorem gL_setCall_X4_setCall : GoodIn wsL_setCall (wsV RL 37 RX4 yX4_setCall wsX4_setCall) := goodIn_app (goodIn_of _ (by decide +kernel)) ggL_setCall_X4_setCall
set_option maxRecDepth 20000 in
theorem ggL_setRate_X4_setRate : GoodIn wsL_setRate wsX4_setRate := goodIn_ca (goodIn_r _ [6, 7, 8, 9, 5, 10, 11, 12, 13, 14, 15, 16, 17, 18, 19, 20] (by decide +kernel) (by decide +kernel)) (goodIn_sub (fun _ h => List.mem_cons_of_mem _ (List.mem_append_right _ h)) (by decide +kernel))
set_option maxRecDepth 20000 in
theorem gL_setRate_X4_setRate : GoodIn wsL_setRate (wsV RL 40 RX4 yX4_setRate wsX4_setRate) := goodIn_app (goodIn_of _ (by decide +kernel)) ggL_setRate_X4_setRate
set_option maxRecDepth 20000 in
theorem ggL_bond_X4_bond : GoodIn wsL_bond wsX4_bond := goodIn_ca (goodIn_r _ [6, 7, 8, 9, 10, 11, 5, 12, 13, 14, 15, 16, 17, 18, 19, 20, 21, 22, 23, 24, 25, 26, 27, 28, 29, 30, 31, 32, 33, 34, 35, 36, 37, 38, 39, 40, 41, 42, 43, 44, 45, 46, 47, 48, 49, 50, 51, 52, 53, 54, 55, 56, 57, 58, 59, 60, 61, 62, 63, 64, 65, 66, 67, 68] (by decide +kernel) (by decide +kernel)) (goodIn_sub (fun _ h => List.mem_cons_of_mem _ (List.mem_append_right _ h)) (by decide +kernel))
set_option maxRecDepth 20000 in
theorem gL_bond_X4_bond : GoodIn wsL_bond (wsV RL 43 RX4 yX4_bond wsX4_bond) := goodIn_app (goodIn_of _ (by decide +kernel)) ggL_bond_X4_bond
set_option maxRecDepth 20000 in
theorem ggL_coupon_X4_coupon : GoodIn wsL_coupon wsX4_coupon := goodIn_ca (goodIn_r _ [6, 7, 8, 9, 10, 11, 12, 13, 14, 5, 15, 16, 17, 18, 19, 20, 21, 22, 23, 24, 25, 26, 27, 28, 29, 30, 31, 32, 33, 34, 35, 36, 37, 38, 39, 40, 41, 42, 43, 44, 45, 46, 47, 48, 49, 50, 51, 52, 53, 54, 55, 56, 57, 58, 59, 60, 61, 62, 63, 64, 65, 66, 67, 68, 69, 70, 71, 72, 73, 74, 75, 76, 77, 78, 79, 80, 81, 82, 83, 84, 85, 86] (by decide +kernel) (by decide +kernel)) (goodIn_sub (fun _ h => List.mem_cons_of_mem _ (List.mem_append_right _ h)) (by decide +kernel))
set_option maxRecDepth 20000 in
theorem gL_coupon_X4_coupon : GoodIn wsL_coupon (wsV RL 46 RX4 yX4_coupon wsX4_coupon) := goodIn_app (goodIn_of _ (by decide +kernel)) ggL_coupon_X4_coupon
set_option maxRecDepth 20000 in
theorem ggL_accrued_X4_accrued : GoodIn wsL_accrued wsX4_accrued := goodIn_ca (goodIn_ca (goodIn_r _ [7, 8, 9, 10, 6, 11, 12, 13, 14, 15, 16, 17, 18, 19, 20, 21, 22, 23, 24, 25, 26, 27, 28, 29, 30, 31, 32, 33, 34, 35, 36, 37, 38, 39, 40, 41, 42, 43, 44, 45, 46, 47, 48, 49, 50, 51, 52, 53, 54, 55, 56, 57, 58, 59, 60, 61, 62, 63, 64, 65, 66, 67, 68, 69, 70, 71, 72, 73, 74, 75, 76, 77, 78, 79, 80, 81, 82, 83, 84, 85, 86, 87, 88, 89, 90, 91, 92, 93, 94, 95, 96, 97, 98, 99, 100, 101, 102, 103, 104, 105, 106, 107, 108, 109, 110, 111, 112, 113, 114, 115, 116, 117, 118, 119, 120, 121, 122, 123, 124, 125, 126, 127, 128] (by decide +kernel) (by decide +kernel)) (goodIn_sub (fun _ h => List.mem_cons_of_mem _ (List.mem_append_left _ (List.mem_append_right _ h))) (by decide +kernel))) (goodIn_sub (fun _ h => List.mem_cons_of_mem _ (List.mem_append_right _ h)) (by decide +kernel))
set_option maxRecDepth 20000 in
theorem gL_accrued_X4_accrued : GoodIn wsL_accrued (wsV RL 49 RX4 yX4_accrued wsX4_accrued) := goodIn_app (goodIn_of _ (by decide +kernel)) ggL_accrued_X4_accrued
set_option maxRecDepth 20000 in
theorem ggL_worth_X4_worth : GoodIn wsL_worth wsX4_worth := goodIn_ca (goodIn_ca (goodIn_r _ [7, 8, 9, 10, 11, 12, 6, 13, 14, 15, 16, 17, 18, 19, 20, 21, 22, 23, 24, 25, 26, 27, 28, 29, 30, 31, 32, 33, 34, 35, 36, 37, 38, 39, 40, 41, 42, 43, 44, 45, 46, 47, 48, 49, 50, 51, 52, 53, 54, 55, 56, 57, 58, 59, 60, 61, 62, 63, 64, 65, 66, 67, 68, 69, 70, 71, 72, 73, 74, 75, 76, 77, 78, 79, 80, 81, 82, 83, 84, 85, 86, 87, 88, 89, 90, 91, 92, 93, 94, 95, 96, 97, 98, 99, 100, 101, 102, 103, 104, 105, 106, 107, 108, 109, 110, 111] (by decide +kernel) (by decide +kernel)) (goodIn_sub (fun _ h => List.mem_cons_of_mem _ (List.mem_append_left _ (List.mem_append_right _ h))) (by decide +kernel))) (goodIn_sub (fun _ h => List.mem_cons_of_mem _ (List.mem_append_right _ h)) (by decide +kernel))
set_option maxRecDepth 20000 in
theorem gL_worth_X4_worth : GoodIn wsL_worth (wsV RL 52 RX4 yX4_worth wsX4_worth) := goodIn_app (goodIn_of _ (by decide +kernel)) ggL_worth_X4_worth
set_option maxRecDepth 20000 in
theorem ggL_yields_X4_yields : GoodIn wsL_yields wsX4_yields := goodIn_ca (goodIn_ca (goodIn_r _ [7, 8, 9, 10, 11, 6, 12, 13, 14, 15, 16, 17, 18, 19, 20, 21, 22, 23, 24, 25, 26, 27, 28, 29, 30, 31, 32, 33, 34, 35, 36, 37, 38, 39, 40, 41, 42, 43, 44, 45, 46, 47, 48, 49, 50, 51, 52, 53, 54, 55, 56, 57, 58, 59, 60, 61, 62, 63, 64, 65, 66, 67, 68, 69, 70, 71, 72, 73, 74, 75, 76, 77, 78, 79, 80, 81, 82, 83, 84, 85, 86, 87, 88, 89, 90, 91, 92, 93, 94, 95, 96, 97, 98, 99, 100, 101, 102, 103, 104, 105, 106, 107, 108, 109, 110, 111, 112, 113, 114, 115, 116, 117, 118, 119, 120, 121, 122, 123, 124, 125, 126, 127, 128, 129, 130, 131, 132, 133, 134, 135, 136, 137, 138, 139, 140, 141, 142, 143, 144, 145, 146, 147, 148, 149, 150, 151, 152, 153, 154, 155, 156, 157, 158, 159, 160, 161] (by decide +kernel) (by decide +kernel)) (goodIn_sub (fun _ h => List.mem_cons_of_mem _ (List.mem_append_left _ (List.mem_append_right _ h))) (by decide +kernel))) (goodIn_sub (fun _ h => List.mem_cons_of_mem _ (List.mem_append_right _ h)) (by decide +kernel))
set_option maxRecDepth 20000 in
theorem gL_yields_X4_yields : GoodIn wsL_yields (wsV RL 55 RX4 yX4_yields wsX4_yields) := goodIn_app (goodIn_of _ (by decide +kernel)) ggL_yields_X4_yields
set_option maxRecDepth 20000 in
theorem ggL_moves_X4_moves : GoodIn wsL_moves wsX4_moves := goodIn_ca (goodIn_ca (goodIn_r _ [7, 8, 9, 10, 11, 12, 6, 13, 14, 15, 16, 17, 18, 19, 20, 21, 22, 23, 24, 25, 26, 27, 28, 29, 30, 31, 32, 33, 34, 35, 36, 37, 38, 39, 40, 41, 42, 43, 44, 45, 46, 47, 48, 49, 50, 51, 52, 53, 54, 55, 56, 57, 58, 59, 60, 61, 62, 63, 64, 65, 66, 67, 68, 69, 70, 71, 72, 73, 74, 75, 76, 77, 78, 79, 80, 81, 82, 83, 84, 85, 86, 87, 88, 89, 90, 91, 92, 93, 94, 95, 96, 97, 98, 99, 100, 101, 102, 103, 104, 105, 106, 107, 108, 109, 110, 111] (by decide +kernel) (by decide +kernel)) (goodIn_sub (fun _ h => List.mem_cons_of_mem _ (List.mem_append_left _ (List.mem_append_right _ h))) (by decide +kernel))) (goodIn_sub (fun _ h => List.mem_cons_of_mem _ (List.mem_append_right _ h)) (by decide +kernel))
set_option maxRecDepth 20000 in
theorem gL_moves_X4_moves : GoodIn wsL_moves (wsV RL 58 RX4 yX4_moves wsX4_moves) := goodIn_app (goodIn_of _ (by decide +kernel)) ggL_moves_X4_moves
set_option maxRecDepth 20000 in
theorem ggL_callsAt_X4_callsAt : GoodIn wsL_callsAt wsX4_callsAt := goodIn_ca (goodIn_r _ [6, 7, 8, 9, 5, 10, 11, 12, 13, 14, 15, 16, 17, 18, 19, 20, 21, 22, 23, 24, 25, 26, 27, 28, 29, 30, 31, 32, 33, 34, 35, 36, 37, 38, 39, 40, 41, 42, 43, 44, 45, 46, 47, 48, 49, 50, 51, 52, 53, 54, 55, 56, 57, 58, 59, 60, 61, 62, 63, 64, 65, 66, 67, 68, 69, 70, 71, 72, 73, 74, 75, 76, 77, 78, 79, 80, 81, 82, 83, 84, 85, 86, 87, 88, 89, 90, 91, 92, 93, 94, 95, 96, 97, 98, 99, 100, 101, 102, 103, 104, 105, 106, 107, 108, 109, 110, 111, 112, 113, 114, 115, 116, 117, 118, 119, 120, 121, 122, 123, 124, 125, 126, 127, 128, 129, 130, 131] (by decide +kernel) (by decide +kernel)) (goodIn_sub (fun _ h => List.mem_cons_of_mem _ (List.mem_append_right _ h)) (by decide +kernel))
set_option maxRecDepth 20000 in
theorem gL_callsAt_X4_callsAt : GoodIn wsL_callsAt (wsV RL 61 RX4 yX4_callsAt wsX4_callsAt) := goodIn_app (goodIn_of _ (by decide +kernel)) ggL_callsAt_X4_callsAt
set_option maxRecDepth 20000 in
theorem ggL_buy_X4_buy : GoodIn wsL_buy wsX4_buy := goodIn_ca (goodIn_ca (goodIn_ca (goodIn_r _ [8, 9, 10, 11, 12, 13, 14, 15, 16, 7, 17, 18, 19, 20, 21, 22, 23, 24, 25, 26, 27, 28, 29, 30, 31, 32, 33, 34, 35, 36, 37, 38, 39, 40, 41, 42, 43, 44, 45, 46, 47, 48, 49, 50, 51, 52, 53, 54, 55, 56, 57, 58, 59, 60, 61, 62, 63, 64, 65, 66, 67, 68, 69, 70, 71, 72, 73, 74, 75, 76, 77, 78, 79, 80, 81, 82, 83, 84, 85, 86, 87, 88, 89, 90, 91, 92, 93, 94, 95, 96, 97, 98, 99, 100, 101, 102, 103, 104, 105, 106, 107, 108, 109, 110, 111, 112, 113, 114, 115, 116, 117, 118, 119, 120, 121, 122, 123, 124, 125, 126, 127, 128, 129, 130, 131, 132, 133, 134, 135, 136, 137, 138, 139, 140, 141, 142, 143, 144, 145, 146, 147, 148, 149, 150, 151, 152, 153, 154, 155, 156, 157, 158, 159, 160] (by decide +kernel) (by decide +kernel)) (goodIn_sub (fun _ h => List.mem_cons_of_mem _ (List.mem_append_left _ (List.mem_append_left _ (List.mem_append_right _ h)))) (by decide +kernel))) (goodIn_sub (fun _ h => List.mem_cons_of_mem _ (List.mem_append_left _ (List.mem_append_right _ h))) (by decide +kernel))) (goodIn_sub (fun _ h => List.mem_cons_of_mem _ (List.mem_append_right _ h)) (by decide +kernel))
set_option maxRecDepth 20000 in
theorem gL_buy_X4_buy : GoodIn wsL_buy (wsV RL 64 RX4 yX4_buy wsX4_buy) := goodIn_app (goodIn_of _ (by decide +kernel)) ggL_buy_X4_buy
set_option maxRecDepth 20000 in
theorem ggL_sell_X4_sell : GoodIn wsL_sell wsX4_sell := goodIn_ca (goodIn_ca (goodIn_ca (goodIn_r _ [8, 9, 10, 11, 12, 13, 14, 15, 16, 7, 17, 18, 19, 20, 21, 22, 23, 24, 25, 26, 27, 28, 29, 30, 31, 32, 33, 34, 35, 36, 37, 38, 39, 40, 41, 42, 43, 44, 45, 46, 47, 48, 49, 50, 51, 52, 53, 54, 55, 56, 57, 58, 59, 60, 61, 62, 63, 64, 65, 66, 67, 68, 69, 70, 71, 72, 73, 74, 75, 76, 77, 78, 79, 80, 81, 82, 83, 84, 85, 86, 87, 88, 89, 90, 91, 92, 93, 94, 95, 96, 97, 98, 99, 100, 101, 102, 103, 104, 105, 106, 107, 108, 109, 110, 111, 112, 113, 114, 115, 116, 117, 118, 119, 120, 121, 122, 123, 124, 125, 126, 127, 128, 129, 130, 131, 132, 133, 134, 135, 136, 137, 138, 139, 140, 141, 142, 143, 144, 145, 146, 147] (by decide +kernel) (by decide +kernel)) (goodIn_sub (fun _ h => List.mem_cons_of_mem _ (List.mem_append_left _ (List.mem_append_left _ (List.mem_append_right _ h)))) (by decide +kernel))) (goodIn_sub (fun _ h => List.mem_cons_of_mem _ (List.mem_append_left _ (List.mem_append_right _ h))) (by decide +kernel))) (goodIn_sub (fun _ h => List.mem_cons_of_mem _ (List.mem_append_right _ h)) (by decide +kernel))
set_option maxRecDepth 20000 in
theorem gL_sell_X4_sell : GoodIn wsL_sell (wsV RL 68 RX4 yX4_sell wsX4_sell) := goodIn_app (goodIn_of _ (by decide +kernel)) ggL_sell_X4_sell
set_option maxRecDepth 20000 in
theorem ggL_pass_X4_pass : GoodIn wsL_pass wsX4_pass := goodIn_ca (goodIn_ca (goodIn_r _ [7, 8, 9, 10, 11, 12, 13, 14, 15, 16, 17, 18, 19, 20, 21, 22, 23, 24, 25, 26, 27, 28, 29, 30, 31, 32, 33, 34, 35, 36, 37, 38, 6, 39, 40, 41, 42, 43, 44, 45, 46, 47, 48, 49, 50, 51, 52, 53, 54, 55, 56, 57, 58, 59, 60, 61, 62, 63, 64, 65, 66, 67, 68, 69, 70, 71, 72, 73, 74, 75, 76, 77, 78, 79, 80, 81, 82, 83, 84, 85, 86, 87, 88, 89, 90, 91, 92, 93, 94, 95, 96, 97, 98, 99, 100, 101, 102, 103, 104, 105, 106, 107, 108, 109, 110, 111, 112, 113, 114, 115, 116, 117, 118, 119, 120, 121, 122, 123, 124, 125, 126, 127, 128, 129, 130, 131, 132, 133, 134, 135, 136, 137, 138, 139, 140, 141, 142, 143, 144, 145, 146, 147, 148, 149, 150, 151, 152, 153, 154, 155, 156, 157, 158, 159, 160, 161, 162, 163, 164, 165, 166, 167, 168, 169, 170, 171, 172, 173, 174, 175, 176] (by decide +kernel) (by decide +kernel)) (goodIn_sub (fun _ h => List.mem_cons_of_mem _ (List.mem_append_left _ (List.mem_append_right _ h))) (by decide +kernel))) (goodIn_sub (fun _ h => List.mem_cons_of_mem _ (List.mem_append_right _ h)) (by decide +kernel))
set_option maxRecDepth 20000 in
theorem gL_pass_X4_pass : GoodIn wsL_pass (wsV RL 71 RX4 yX4_pass wsX4_pass) := goodIn_app (goodIn_of _ (by decide +kernel)) ggL_pass_X4_pass
set_option maxRecDepth 20000 in
theorem ggL_count_X4_count : GoodIn wsL_count wsX4_count := goodIn_ca (goodIn_r _ [6, 7, 8, 9, 10, 11, 5, 12, 13, 14, 15, 16, 17, 18, 19, 20, 21, 22, 23, 24, 25, 26, 27, 28, 29, 30, 31, 32, 33, 34, 35, 36, 37, 38, 39, 40, 41, 42, 43, 44, 45, 46, 47, 48, 49, 50, 51, 52, 53, 54, 55, 56, 57, 58, 59, 60, 61, 62, 63, 64, 65, 66, 67, 68, 69, 70, 71, 72, 73, 74, 75, 76, 77, 78, 79, 80, 81, 82, 83, 84, 85, 86, 87, 88, 89, 90, 91, 92, 93, 94, 95, 96, 97, 98, 99, 100, 101, 102, 103, 104, 105, 106, 107, 108, 109, 110, 111, 112, 113, 114, 115, 116, 117, 118, 119, 120, 121, 122, 123, 124, 125, 126, 127, 128, 129, 130, 131, 132] (by decide +kernel) (by decide +kernel)) (goodIn_sub (fun _ h => List.mem_cons_of_mem _ (List.mem_append_right _ h)) (by decide +kernel))
set_option maxRecDepth 20000 in
theorem gL_count_X4_count : GoodIn wsL_count (wsV RL 75 RX4 yX4_count wsX4_count) := goodIn_app (goodIn_of _ (by decide +kernel)) ggL_count_X4_count
set_option maxRecDepth 20000 in
theorem ggL_paysIn_X4_paysIn : GoodIn wsL_paysIn wsX4_paysIn := goodIn_ca (goodIn_r _ [6, 7, 8, 9, 10, 11, 5, 12, 13, 14, 15, 16, 17, 18, 19, 20, 21, 22, 23, 24, 25, 26, 27, 28, 29, 30, 31, 32, 33, 34, 35, 36, 37, 38, 39, 40, 41, 42, 43, 44, 45, 46, 47, 48, 49, 50, 51, 52, 53, 54, 55, 56, 57, 58, 59, 60, 61, 62, 63, 64, 65, 66, 67, 68, 69, 70, 71, 72, 73, 74, 75, 76, 77, 78, 79, 80, 81, 82, 83, 84, 85, 86, 87, 88, 89, 90, 91, 92] (by decide +kernel) (by decide +kernel)) (goodIn_sub (fun _ h => List.mem_cons_of_mem _ (List.mem_append_right _ h)) (by decide +kernel))
set_option maxRecDepth 20000 in
theorem gL_paysIn_X4_paysIn : GoodIn wsL_paysIn (wsV RL 78 RX4 yX4_paysIn wsX4_paysIn) := goodIn_app (goodIn_of _ (by decide +kernel)) ggL_paysIn_X4_paysIn
set_option maxRecDepth 20000 in
theorem ggL_ladder_X4_ladder : GoodIn wsL_ladder wsX4_ladder := goodIn_ca (goodIn_r _ [6, 7, 8, 9, 10, 11, 12, 13, 14, 15, 16, 5, 17, 18, 19, 20, 21, 22, 23, 24, 25, 26, 27, 28, 29, 30, 31, 32, 33, 34, 35, 36, 37, 38, 39, 40, 41, 42, 43, 44, 45, 46, 47, 48, 49, 50, 51, 52, 53, 54, 55, 56, 57, 58, 59, 60, 61, 62, 63, 64, 65, 66, 67, 68, 69, 70, 71, 72, 73, 74, 75, 76, 77, 78, 79, 80, 81, 82, 83, 84, 85, 86, 87, 88, 89, 90, 91, 92, 93, 94, 95, 96, 97, 98, 99, 100, 101, 102, 103, 104, 105, 106, 107, 108, 109, 110, 111, 112, 113, 114, 115, 116, 117, 118, 119, 120, 121, 122, 123, 124, 125, 126, 127, 128] (by decide +kernel) (by decide +kernel)) (goodIn_sub (fun _ h => List.mem_cons_of_mem _ (List.mem_append_right _ h)) (by decide +kernel))
set_option maxRecDepth 20000 in
theorem gL_ladder_X4_ladder : GoodIn wsL_ladder (wsV RL 81 RX4 yX4_ladder wsX4_ladder) := goodIn_app (goodIn_of _ (by decide +kernel)) ggL_ladder_X4_ladder
set_option maxRecDepth 20000 in
theorem ggL_best_X4_best : GoodIn wsL_best wsX4_best := goodIn_ca (goodIn_r _ [6, 7, 8, 9, 10, 5, 11, 12, 13, 14, 15, 16, 17, 18, 19, 20, 21, 22, 23, 24, 25, 26, 27, 28, 29, 30, 31, 32, 33, 34, 35, 36, 37, 38, 39, 40, 41, 42, 43, 44, 45, 46, 47, 48, 49, 50, 51, 52, 53, 54, 55, 56, 57, 58, 59, 60, 61, 62, 63, 64, 65, 66, 67, 68, 69, 70, 71, 72, 73, 74, 75, 76, 77, 78, 79, 80, 81, 82, 83, 84, 85, 86, 87, 88, 89, 90, 91, 92, 93, 94, 95, 96, 97, 98, 99, 100, 101, 102, 103, 104, 105, 106, 107, 108, 109, 110, 111, 112, 113, 114, 115, 116, 117, 118, 119, 120, 121, 122, 123, 124, 125, 126, 127, 128, 129, 130, 131, 132, 133, 134, 135, 136, 137, 138, 139, 140, 141, 142, 143, 144, 145, 146, 147, 148, 149, 150, 151, 152, 153, 154, 155, 156, 157, 158, 159, 160] (by decide +kernel) (by decide +kernel)) (goodIn_sub (fun _ h => List.mem_cons_of_mem _ (List.mem_append_right _ h)) (by decide +kernel))
set_option maxRecDepth 20000 in
theorem gL_best_X4_best : GoodIn wsL_best (wsV RL 84 RX4 yX4_best wsX4_best) := goodIn_app (goodIn_of _ (by decide +kernel)) ggL_best_X4_best
theorem dL_later_0 : decode cL_later 0 = .ok (.aload_n 3, 1) := by decide +kernel
theorem dL_later_1 : decode cL_later 1 = .ok (.iconst 0, 1) := by decide +kernel
theorem dL_later_2 : decode cL_later 2 = .ok (.aload_n 0, 1) := by decide +kernel
theorem dL_later_3 : decode cL_later 3 = .ok (.iload_n 1, 1) := by decide +kernel
theorem dL_later_4 : decode cL_later 4 = .ok (.iload_n 2, 1) := by decide +kernel
theorem dL_later_5 : decode cL_later 5 = .ok (.invokevirtual 7, 3) := by decide +kernel
theorem dL_later_8 : decode cL_later 8 = .ok (.i2l, 1) := by decide +kernel
theorem dL_later_9 : decode cL_later 9 = .ok (.lastore, 1) := by decide +kernel
theorem dL_later_10 : decode cL_later 10 = .ok (.goto 7, 3) := by decide +kernel
theorem dL_later_13 : decode cL_later 13 = .ok (.astore 4, 2) := by decide +kernel
theorem dL_later_15 : decode cL_later 15 = .ok (.iconst 1, 1) := by decide +kernel
theorem dL_later_16 : decode cL_later 16 = .ok (.ireturn, 1) := by decide +kernel
theorem dL_later_17 : decode cL_later 17 = .ok (.iconst 0, 1) := by decide +kernel
theorem dL_later_18 : decode cL_later 18 = .ok (.ireturn, 1) := by decide +kernel
theorem dL_weekday_0 : decode cL_weekday 0 = .ok (.aload_n 2, 1) := by decide +kernel
theorem dL_weekday_1 : decode cL_weekday 1 = .ok (.iconst 0, 1) := by decide +kernel
theorem dL_weekday_2 : decode cL_weekday 2 = .ok (.aload_n 0, 1) := by decide +kernel
theorem dL_weekday_3 : decode cL_weekday 3 = .ok (.iload_n 1, 1) := by decide +kernel
theorem dL_weekday_4 : decode cL_weekday 4 = .ok (.invokevirtual 15, 3) := by decide +kernel
theorem dL_weekday_7 : decode cL_weekday 7 = .ok (.i2l, 1) := by decide +kernel
theorem dL_weekday_8 : decode cL_weekday 8 = .ok (.lastore, 1) := by decide +kernel
theorem dL_weekday_9 : decode cL_weekday 9 = .ok (.goto 6, 3) := by decide +kernel
theorem dL_weekday_12 : decode cL_weekday 12 = .ok (.astore_n 3, 1) := by decide +kernel
theorem dL_weekday_13 : decode cL_weekday 13 = .ok (.iconst 1, 1) := by decide +kernel
theorem dL_weekday_14 : decode cL_weekday 14 = .ok (.ireturn, 1) := by decide +kernel
theorem dL_weekday_15 : decode cL_weekday 15 = .ok (.iconst 0, 1) := by decide +kernel
theorem dL_weekday_16 : decode cL_weekday 16 = .ok (.ireturn, 1) := by decide +kernel
theorem dL_addHoliday_0 : decode cL_addHoliday 0 = .ok (.aload_n 2, 1) := by decide +kernel
theorem dL_addHoliday_1 : decode cL_addHoliday 1 = .ok (.iconst 0, 1) := by decide +kernel
theorem dL_addHoliday_2 : decode cL_addHoliday 2 = .ok (.aload_n 0, 1) := by decide +kernel
theorem dL_addHoliday_3 : decode cL_addHoliday 3 = .ok (.iload_n 1, 1) := by decide +kernel
theorem dL_addHoliday_4 : decode cL_addHoliday 4 = .ok (.invokevirtual 19, 3) := by decide +kernel
theorem dL_addHoliday_7 : decode cL_addHoliday 7 = .ok (.i2l, 1) := by decide +kernel
theorem dL_addHoliday_8 : decode cL_addHoliday 8 = .ok (.lastore, 1) := by decide +kernel
theorem dL_addHoliday_9 : decode cL_addHoliday 9 = .ok (.goto 9, 3) := by decide +kernel
theorem dL_addHoliday_12 : decode cL_addHoliday 12 = .ok (.astore_n 3, 1) := by decide +kernel
theorem dL_addHoliday_13 : decode cL_addHoliday 13 = .ok (.iconst 1, 1) := by decide +kernel
theorem dL_addHoliday_14 : decode cL_addHoliday 14 = .ok (.ireturn, 1) := by decide +kernel
theorem dL_addHoliday_15 : decode cL_addHoliday 15 = .ok (.astore_n 3, 1) := by decide +kernel
theorem dL_addHoliday_16 : decode cL_addHoliday 16 = .ok (.iconst 2, 1) := by decide +kernel
theorem dL_addHoliday_17 : decode cL_addHoliday 17 = .ok (.ireturn, 1) := by decide +kernel
theorem dL_addHoliday_18 : decode cL_addHoliday 18 = .ok (.iconst 0, 1) := by decide +kernel
theorem dL_addHoliday_19 : decode cL_addHoliday 19 = .ok (.ireturn, 1) := by decide +kernel
theorem dL_working_0 : decode cL_working 0 = .ok (.aload_n 2, 1) := by decide +kernel
theorem dL_working_1 : decode cL_working 1 = .ok (.iconst 0, 1) := by decide +kernel
theorem dL_working_2 : decode cL_working 2 = .ok (.aload_n 0, 1) := by decide +kernel
theorem dL_working_3 : decode cL_working 3 = .ok (.iload_n 1, 1) := by decide +kernel
theorem dL_working_4 : decode cL_working 4 = .ok (.invokevirtual 24, 3) := by decide +kernel
theorem dL_working_7 : decode cL_working 7 = .ok (.i2l, 1) := by decide +kernel
theorem dL_working_8 : decode cL_working 8 = .ok (.lastore, 1) := by decide +kernel
theorem dL_working_9 : decode cL_working 9 = .ok (.goto 6, 3) := by decide +kernel
theorem dL_working_12 : decode cL_working 12 = .ok (.astore_n 3, 1) := by decide +kernel
theorem dL_working_13 : decode cL_working 13 = .ok (.iconst 1, 1) := by decide +kernel
theorem dL_working_14 : decode cL_working 14 = .ok (.ireturn, 1) := by decide +kernel
theorem dL_working_15 : decode cL_working 15 = .ok (.iconst 0, 1) := by decide +kernel
theorem dL_working_16 : decode cL_working 16 = .ok (.ireturn, 1) := by decide +kernel
theorem dL_addBond_0 : decode cL_addBond 0 = .ok (.aload 6, 2) := by decide +kernel
theorem dL_addBond_2 : decode cL_addBond 2 = .ok (.iconst 0, 1) := by decide +kernel
theorem dL_addBond_3 : decode cL_addBond 3 = .ok (.aload_n 0, 1) := by decide +kernel
theorem dL_addBond_4 : decode cL_addBond 4 = .ok (.iload_n 1, 1) := by decide +kernel
theorem dL_addBond_5 : decode cL_addBond 5 = .ok (.iload_n 2, 1) := by decide +kernel
theorem dL_addBond_6 : decode cL_addBond 6 = .ok (.iload_n 3, 1) := by decide +kernel
theorem dL_addBond_7 : decode cL_addBond 7 = .ok (.iload 4, 2) := by decide +kernel
theorem dL_addBond_9 : decode cL_addBond 9 = .ok (.iload 5, 2) := by decide +kernel
theorem dL_addBond_11 : decode cL_addBond 11 = .ok (.invokevirtual 27, 3) := by decide +kernel
theorem dL_addBond_14 : decode cL_addBond 14 = .ok (.i2l, 1) := by decide +kernel
theorem dL_addBond_15 : decode cL_addBond 15 = .ok (.lastore, 1) := by decide +kernel
theorem dL_addBond_16 : decode cL_addBond 16 = .ok (.goto 11, 3) := by decide +kernel
theorem dL_addBond_19 : decode cL_addBond 19 = .ok (.astore 7, 2) := by decide +kernel
theorem dL_addBond_21 : decode cL_addBond 21 = .ok (.iconst 1, 1) := by decide +kernel
theorem dL_addBond_22 : decode cL_addBond 22 = .ok (.ireturn, 1) := by decide +kernel
theorem dL_addBond_23 : decode cL_addBond 23 = .ok (.astore 7, 2) := by decide +kernel
theorem dL_addBond_25 : decode cL_addBond 25 = .ok (.iconst 2, 1) := by decide +kernel
theorem dL_addBond_26 : decode cL_addBond 26 = .ok (.ireturn, 1) := by decide +kernel
theorem dL_addBond_27 : decode cL_addBond 27 = .ok (.iconst 0, 1) := by decide +kernel
theorem dL_addBond_28 : decode cL_addBond 28 = .ok (.ireturn, 1) := by decide +kernel
theorem dL_setSink_0 : decode cL_setSink 0 = .ok (.aload 4, 2) := by decide +kernel
theorem dL_setSink_2 : decode cL_setSink 2 = .ok (.iconst 0, 1) := by decide +kernel
theorem dL_setSink_3 : decode cL_setSink 3 = .ok (.aload_n 0, 1) := by decide +kernel
theorem dL_setSink_4 : decode cL_setSink 4 = .ok (.iload_n 1, 1) := by decide +kernel
theorem dL_setSink_5 : decode cL_setSink 5 = .ok (.iload_n 2, 1) := by decide +kernel
theorem dL_setSink_6 : decode cL_setSink 6 = .ok (.iload_n 3, 1) := by decide +kernel
theorem dL_setSink_7 : decode cL_setSink 7 = .ok (.invokevirtual 31, 3) := by decide +kernel
theorem dL_setSink_10 : decode cL_setSink 10 = .ok (.i2l, 1) := by decide +kernel
theorem dL_setSink_11 : decode cL_setSink 11 = .ok (.lastore, 1) := by decide +kernel
theorem dL_setSink_12 : decode cL_setSink 12 = .ok (.goto 15, 3) := by decide +kernel
theorem dL_setSink_15 : decode cL_setSink 15 = .ok (.astore 5, 2) := by decide +kernel
theorem dL_setSink_17 : decode cL_setSink 17 = .ok (.iconst 1, 1) := by decide +kernel
theorem dL_setSink_18 : decode cL_setSink 18 = .ok (.ireturn, 1) := by decide +kernel
theorem dL_setSink_19 : decode cL_setSink 19 = .ok (.astore 5, 2) := by decide +kernel
theorem dL_setSink_21 : decode cL_setSink 21 = .ok (.iconst 2, 1) := by decide +kernel
theorem dL_setSink_22 : decode cL_setSink 22 = .ok (.ireturn, 1) := by decide +kernel
theorem dL_setSink_23 : decode cL_setSink 23 = .ok (.astore 5, 2) := by decide +kernel
theorem dL_setSink_25 : decode cL_setSink 25 = .ok (.iconst 3, 1) := by decide +kernel
theorem dL_setSink_26 : decode cL_setSink 26 = .ok (.ireturn, 1) := by decide +kernel
theorem dL_setSink_27 : decode cL_setSink 27 = .ok (.iconst 0, 1) := by decide +kernel
theorem dL_setSink_28 : decode cL_setSink 28 = .ok (.ireturn, 1) := by decide +kernel
theorem dL_setCall_0 : decode cL_setCall 0 = .ok (.aload 4, 2) := by decide +kernel
theorem dL_setCall_2 : decode cL_setCall 2 = .ok (.iconst 0, 1) := by decide +kernel
theorem dL_setCall_3 : decode cL_setCall 3 = .ok (.aload_n 0, 1) := by decide +kernel
theorem dL_setCall_4 : decode cL_setCall 4 = .ok (.iload_n 1, 1) := by decide +kernel
theorem dL_setCall_5 : decode cL_setCall 5 = .ok (.iload_n 2, 1) := by decide +kernel
theorem dL_setCall_6 : decode cL_setCall 6 = .ok (.iload_n 3, 1) := by decide +kernel
theorem dL_setCall_7 : decode cL_setCall 7 = .ok (.invokevirtual 37, 3) := by decide +kernel
theorem dL_setCall_10 : decode cL_setCall 10 = .ok (.i2l, 1) := by decide +kernel
theorem dL_setCall_11 : decode cL_setCall 11 = .ok (.lastore, 1) := by decide +kernel
theorem dL_setCall_12 : decode cL_setCall 12 = .ok (.goto 15, 3) := by decide +kernel
theorem dL_setCall_15 : decode cL_setCall 15 = .ok (.astore 5, 2) := by decide +kernel
theorem dL_setCall_17 : decode cL_setCall 17 = .ok (.iconst 1, 1) := by decide +kernel
theorem dL_setCall_18 : decode cL_setCall 18 = .ok (.ireturn, 1) := by decide +kernel
theorem dL_setCall_19 : decode cL_setCall 19 = .ok (.astore 5, 2) := by decide +kernel
theorem dL_setCall_21 : decode cL_setCall 21 = .ok (.iconst 2, 1) := by decide +kernel
theorem dL_setCall_22 : decode cL_setCall 22 = .ok (.ireturn, 1) := by decide +kernel
theorem dL_setCall_23 : decode cL_setCall 23 = .ok (.astore 5, 2) := by decide +kernel
theorem dL_setCall_25 : decode cL_setCall 25 = .ok (.iconst 3, 1) := by decide +kernel
theorem dL_setCall_26 : decode cL_setCall 26 = .ok (.ireturn, 1) := by decide +kernel
theorem dL_setCall_27 : decode cL_setCall 27 = .ok (.iconst 0, 1) := by decide +kernel
theorem dL_setCall_28 : decode cL_setCall 28 = .ok (.ireturn, 1) := by decide +kernel
theorem dL_setRate_0 : decode cL_setRate 0 = .ok (.aload_n 2, 1) := by decide +kernel
theorem dL_setRate_1 : decode cL_setRate 1 = .ok (.iconst 0, 1) := by decide +kernel
theorem dL_setRate_2 : decode cL_setRate 2 = .ok (.aload_n 0, 1) := by decide +kernel
theorem dL_setRate_3 : decode cL_setRate 3 = .ok (.iload_n 1, 1) := by decide +kernel
theorem dL_setRate_4 : decode cL_setRate 4 = .ok (.invokevirtual 40, 3) := by decide +kernel
theorem dL_setRate_7 : decode cL_setRate 7 = .ok (.i2l, 1) := by decide +kernel
theorem dL_setRate_8 : decode cL_setRate 8 = .ok (.lastore, 1) := by decide +kernel
theorem dL_setRate_9 : decode cL_setRate 9 = .ok (.goto 6, 3) := by decide +kernel
theorem dL_setRate_12 : decode cL_setRate 12 = .ok (.astore_n 3, 1) := by decide +kernel
theorem dL_setRate_13 : decode cL_setRate 13 = .ok (.iconst 1, 1) := by decide +kernel
theorem dL_setRate_14 : decode cL_setRate 14 = .ok (.ireturn, 1) := by decide +kernel
theorem dL_setRate_15 : decode cL_setRate 15 = .ok (.iconst 0, 1) := by decide +kernel
theorem dL_setRate_16 : decode cL_setRate 16 = .ok (.ireturn, 1) := by decide +kernel
theorem dL_bond_0 : decode cL_bond 0 = .ok (.aload_n 3, 1) := by decide +kernel
theorem dL_bond_1 : decode cL_bond 1 = .ok (.iconst 0, 1) := by decide +kernel
theorem dL_bond_2 : decode cL_bond 2 = .ok (.aload_n 0, 1) := by decide +kernel
theorem dL_bond_3 : decode cL_bond 3 = .ok (.iload_n 1, 1) := by decide +kernel
theorem dL_bond_4 : decode cL_bond 4 = .ok (.iload_n 2, 1) := by decide +kernel
theorem dL_bond_5 : decode cL_bond 5 = .ok (.invokevirtual 43, 3) := by decide +kernel
theorem dL_bond_8 : decode cL_bond 8 = .ok (.i2l, 1) := by decide +kernel
theorem dL_bond_9 : decode cL_bond 9 = .ok (.lastore, 1) := by decide +kernel
theorem dL_bond_10 : decode cL_bond 10 = .ok (.goto 7, 3) := by decide +kernel
theorem dL_bond_13 : decode cL_bond 13 = .ok (.astore 4, 2) := by decide +kernel
theorem dL_bond_15 : decode cL_bond 15 = .ok (.iconst 1, 1) := by decide +kernel
theorem dL_bond_16 : decode cL_bond 16 = .ok (.ireturn, 1) := by decide +kernel
theorem dL_bond_17 : decode cL_bond 17 = .ok (.iconst 0, 1) := by decide +kernel
theorem dL_bond_18 : decode cL_bond 18 = .ok (.ireturn, 1) := by decide +kernel
theorem dL_coupon_0 : decode cL_coupon 0 = .ok (.aload 4, 2) := by decide +kernel
theorem dL_coupon_2 : decode cL_coupon 2 = .ok (.iconst 0, 1) := by decide +kernel
theorem dL_coupon_3 : decode cL_coupon 3 = .ok (.aload_n 0, 1) := by decide +kernel
theorem dL_coupon_4 : decode cL_coupon 4 = .ok (.iload_n 1, 1) := by decide +kernel
theorem dL_coupon_5 : decode cL_coupon 5 = .ok (.iload_n 2, 1) := by decide +kernel
theorem dL_coupon_6 : decode cL_coupon 6 = .ok (.iload_n 3, 1) := by decide +kernel
theorem dL_coupon_7 : decode cL_coupon 7 = .ok (.invokevirtual 46, 3) := by decide +kernel
theorem dL_coupon_10 : decode cL_coupon 10 = .ok (.i2l, 1) := by decide +kernel
theorem dL_coupon_11 : decode cL_coupon 11 = .ok (.lastore, 1) := by decide +kernel
theorem dL_coupon_12 : decode cL_coupon 12 = .ok (.goto 7, 3) := by decide +kernel
theorem dL_coupon_15 : decode cL_coupon 15 = .ok (.astore 5, 2) := by decide +kernel
theorem dL_coupon_17 : decode cL_coupon 17 = .ok (.iconst 1, 1) := by decide +kernel
theorem dL_coupon_18 : decode cL_coupon 18 = .ok (.ireturn, 1) := by decide +kernel
theorem dL_coupon_19 : decode cL_coupon 19 = .ok (.iconst 0, 1) := by decide +kernel
theorem dL_coupon_20 : decode cL_coupon 20 = .ok (.ireturn, 1) := by decide +kernel
theorem dL_accrued_0 : decode cL_accrued 0 = .ok (.aload_n 3, 1) := by decide +kernel
theorem dL_accrued_1 : decode cL_accrued 1 = .ok (.iconst 0, 1) := by decide +kernel
theorem dL_accrued_2 : decode cL_accrued 2 = .ok (.aload_n 0, 1) := by decide +kernel
theorem dL_accrued_3 : decode cL_accrued 3 = .ok (.iload_n 1, 1) := by decide +kernel
theorem dL_accrued_4 : decode cL_accrued 4 = .ok (.iload_n 2, 1) := by decide +kernel
theorem dL_accrued_5 : decode cL_accrued 5 = .ok (.invokevirtual 49, 3) := by decide +kernel
theorem dL_accrued_8 : decode cL_accrued 8 = .ok (.i2l, 1) := by decide +kernel
theorem dL_accrued_9 : decode cL_accrued 9 = .ok (.lastore, 1) := by decide +kernel
theorem dL_accrued_10 : decode cL_accrued 10 = .ok (.goto 11, 3) := by decide +kernel
theorem dL_accrued_13 : decode cL_accrued 13 = .ok (.astore 4, 2) := by decide +kernel
theorem dL_accrued_15 : decode cL_accrued 15 = .ok (.iconst 1, 1) := by decide +kernel
theorem dL_accrued_16 : decode cL_accrued 16 = .ok (.ireturn, 1) := by decide +kernel
theorem dL_accrued_17 : decode cL_accrued 17 = .ok (.astore 4, 2) := by decide +kernel
theorem dL_accrued_19 : decode cL_accrued 19 = .ok (.iconst 2, 1) := by decide +kernel
theorem dL_accrued_20 : decode cL_accrued 20 = .ok (.ireturn, 1) := by decide +kernel
theorem dL_accrued_21 : decode cL_accrued 21 = .ok (.iconst 0, 1) := by decide +kernel
theorem dL_accrued_22 : decode cL_accrued 22 = .ok (.ireturn, 1) := by decide +kernel
theorem dL_worth_0 : decode cL_worth 0 = .ok (.aload_n 3, 1) := by decide +kernel
theorem dL_worth_1 : decode cL_worth 1 = .ok (.iconst 0, 1) := by decide +kernel
theorem dL_worth_2 : decode cL_worth 2 = .ok (.aload_n 0, 1) := by decide +kernel
theorem dL_worth_3 : decode cL_worth 3 = .ok (.iload_n 1, 1) := by decide +kernel
theorem dL_worth_4 : decode cL_worth 4 = .ok (.iload_n 2, 1) := by decide +kernel
theorem dL_worth_5 : decode cL_worth 5 = .ok (.invokevirtual 52, 3) := by decide +kernel
theorem dL_worth_8 : decode cL_worth 8 = .ok (.i2l, 1) := by decide +kernel
theorem dL_worth_9 : decode cL_worth 9 = .ok (.lastore, 1) := by decide +kernel
theorem dL_worth_10 : decode cL_worth 10 = .ok (.goto 11, 3) := by decide +kernel
theorem dL_worth_13 : decode cL_worth 13 = .ok (.astore 4, 2) := by decide +kernel
theorem dL_worth_15 : decode cL_worth 15 = .ok (.iconst 1, 1) := by decide +kernel
theorem dL_worth_16 : decode cL_worth 16 = .ok (.ireturn, 1) := by decide +kernel
theorem dL_worth_17 : decode cL_worth 17 = .ok (.astore 4, 2) := by decide +kernel
theorem dL_worth_19 : decode cL_worth 19 = .ok (.iconst 2, 1) := by decide +kernel
theorem dL_worth_20 : decode cL_worth 20 = .ok (.ireturn, 1) := by decide +kernel
theorem dL_worth_21 : decode cL_worth 21 = .ok (.iconst 0, 1) := by decide +kernel
theorem dL_worth_22 : decode cL_worth 22 = .ok (.ireturn, 1) := by decide +kernel
theorem dL_yields_0 : decode cL_yields 0 = .ok (.aload_n 3, 1) := by decide +kernel
theorem dL_yields_1 : decode cL_yields 1 = .ok (.iconst 0, 1) := by decide +kernel
theorem dL_yields_2 : decode cL_yields 2 = .ok (.aload_n 0, 1) := by decide +kernel
theorem dL_yields_3 : decode cL_yields 3 = .ok (.iload_n 1, 1) := by decide +kernel
theorem dL_yields_4 : decode cL_yields 4 = .ok (.iload_n 2, 1) := by decide +kernel
theorem dL_yields_5 : decode cL_yields 5 = .ok (.invokevirtual 55, 3) := by decide +kernel
theorem dL_yields_8 : decode cL_yields 8 = .ok (.i2l, 1) := by decide +kernel
theorem dL_yields_9 : decode cL_yields 9 = .ok (.lastore, 1) := by decide +kernel
theorem dL_yields_10 : decode cL_yields 10 = .ok (.goto 11, 3) := by decide +kernel
theorem dL_yields_13 : decode cL_yields 13 = .ok (.astore 4, 2) := by decide +kernel
theorem dL_yields_15 : decode cL_yields 15 = .ok (.iconst 1, 1) := by decide +kernel
theorem dL_yields_16 : decode cL_yields 16 = .ok (.ireturn, 1) := by decide +kernel
theorem dL_yields_17 : decode cL_yields 17 = .ok (.astore 4, 2) := by decide +kernel
theorem dL_yields_19 : decode cL_yields 19 = .ok (.iconst 2, 1) := by decide +kernel
theorem dL_yields_20 : decode cL_yields 20 = .ok (.ireturn, 1) := by decide +kernel
theorem dL_yields_21 : decode cL_yields 21 = .ok (.iconst 0, 1) := by decide +kernel
theorem dL_yields_22 : decode cL_yields 22 = .ok (.ireturn, 1) := by decide +kernel
theorem dL_moves_0 : decode cL_moves 0 = .ok (.aload_n 3, 1) := by decide +kernel
theorem dL_moves_1 : decode cL_moves 1 = .ok (.iconst 0, 1) := by decide +kernel
theorem dL_moves_2 : decode cL_moves 2 = .ok (.aload_n 0, 1) := by decide +kernel
theorem dL_moves_3 : decode cL_moves 3 = .ok (.iload_n 1, 1) := by decide +kernel
theorem dL_moves_4 : decode cL_moves 4 = .ok (.iload_n 2, 1) := by decide +kernel
theorem dL_moves_5 : decode cL_moves 5 = .ok (.invokevirtual 58, 3) := by decide +kernel
theorem dL_moves_8 : decode cL_moves 8 = .ok (.i2l, 1) := by decide +kernel
theorem dL_moves_9 : decode cL_moves 9 = .ok (.lastore, 1) := by decide +kernel
theorem dL_moves_10 : decode cL_moves 10 = .ok (.goto 11, 3) := by decide +kernel
theorem dL_moves_13 : decode cL_moves 13 = .ok (.astore 4, 2) := by decide +kernel
theorem dL_moves_15 : decode cL_moves 15 = .ok (.iconst 1, 1) := by decide +kernel
theorem dL_moves_16 : decode cL_moves 16 = .ok (.ireturn, 1) := by decide +kernel
theorem dL_moves_17 : decode cL_moves 17 = .ok (.astore 4, 2) := by decide +kernel
theorem dL_moves_19 : decode cL_moves 19 = .ok (.iconst 2, 1) := by decide +kernel
theorem dL_moves_20 : decode cL_moves 20 = .ok (.ireturn, 1) := by decide +kernel
theorem dL_moves_21 : decode cL_moves 21 = .ok (.iconst 0, 1) := by decide +kernel
theorem dL_moves_22 : decode cL_moves 22 = .ok (.ireturn, 1) := by decide +kernel
theorem dL_callsAt_0 : decode cL_callsAt 0 = .ok (.aload_n 2, 1) := by decide +kernel
theorem dL_callsAt_1 : decode cL_callsAt 1 = .ok (.iconst 0, 1) := by decide +kernel
theorem dL_callsAt_2 : decode cL_callsAt 2 = .ok (.aload_n 0, 1) := by decide +kernel
theorem dL_callsAt_3 : decode cL_callsAt 3 = .ok (.iload_n 1, 1) := by decide +kernel
theorem dL_callsAt_4 : decode cL_callsAt 4 = .ok (.invokevirtual 61, 3) := by decide +kernel
theorem dL_callsAt_7 : decode cL_callsAt 7 = .ok (.i2l, 1) := by decide +kernel
theorem dL_callsAt_8 : decode cL_callsAt 8 = .ok (.lastore, 1) := by decide +kernel
theorem dL_callsAt_9 : decode cL_callsAt 9 = .ok (.goto 6, 3) := by decide +kernel
theorem dL_callsAt_12 : decode cL_callsAt 12 = .ok (.astore_n 3, 1) := by decide +kernel
theorem dL_callsAt_13 : decode cL_callsAt 13 = .ok (.iconst 1, 1) := by decide +kernel
theorem dL_callsAt_14 : decode cL_callsAt 14 = .ok (.ireturn, 1) := by decide +kernel
theorem dL_callsAt_15 : decode cL_callsAt 15 = .ok (.iconst 0, 1) := by decide +kernel
theorem dL_callsAt_16 : decode cL_callsAt 16 = .ok (.ireturn, 1) := by decide +kernel
theorem dL_buy_0 : decode cL_buy 0 = .ok (.aload 4, 2) := by decide +kernel
theorem dL_buy_2 : decode cL_buy 2 = .ok (.iconst 0, 1) := by decide +kernel
theorem dL_buy_3 : decode cL_buy 3 = .ok (.aload_n 0, 1) := by decide +kernel
theorem dL_buy_4 : decode cL_buy 4 = .ok (.iload_n 1, 1) := by decide +kernel
theorem dL_buy_5 : decode cL_buy 5 = .ok (.iload_n 2, 1) := by decide +kernel
theorem dL_buy_6 : decode cL_buy 6 = .ok (.iload_n 3, 1) := by decide +kernel
theorem dL_buy_7 : decode cL_buy 7 = .ok (.invokevirtual 64, 3) := by decide +kernel
theorem dL_buy_10 : decode cL_buy 10 = .ok (.lastore, 1) := by decide +kernel
theorem dL_buy_11 : decode cL_buy 11 = .ok (.goto 15, 3) := by decide +kernel
theorem dL_buy_14 : decode cL_buy 14 = .ok (.astore 5, 2) := by decide +kernel
theorem dL_buy_16 : decode cL_buy 16 = .ok (.iconst 1, 1) := by decide +kernel
theorem dL_buy_17 : decode cL_buy 17 = .ok (.ireturn, 1) := by decide +kernel
theorem dL_buy_18 : decode cL_buy 18 = .ok (.astore 5, 2) := by decide +kernel
theorem dL_buy_20 : decode cL_buy 20 = .ok (.iconst 2, 1) := by decide +kernel
theorem dL_buy_21 : decode cL_buy 21 = .ok (.ireturn, 1) := by decide +kernel
theorem dL_buy_22 : decode cL_buy 22 = .ok (.astore 5, 2) := by decide +kernel
theorem dL_buy_24 : decode cL_buy 24 = .ok (.iconst 3, 1) := by decide +kernel
theorem dL_buy_25 : decode cL_buy 25 = .ok (.ireturn, 1) := by decide +kernel
theorem dL_buy_26 : decode cL_buy 26 = .ok (.iconst 0, 1) := by decide +kernel
theorem dL_buy_27 : decode cL_buy 27 = .ok (.ireturn, 1) := by decide +kernel
theorem dL_sell_0 : decode cL_sell 0 = .ok (.aload 4, 2) := by decide +kernel
theorem dL_sell_2 : decode cL_sell 2 = .ok (.iconst 0, 1) := by decide +kernel
theorem dL_sell_3 : decode cL_sell 3 = .ok (.aload_n 0, 1) := by decide +kernel
theorem dL_sell_4 : decode cL_sell 4 = .ok (.iload_n 1, 1) := by decide +kernel
theorem dL_sell_5 : decode cL_sell 5 = .ok (.iload_n 2, 1) := by decide +kernel
theorem dL_sell_6 : decode cL_sell 6 = .ok (.iload_n 3, 1) := by decide +kernel
theorem dL_sell_7 : decode cL_sell 7 = .ok (.invokevirtual 68, 3) := by decide +kernel
theorem dL_sell_10 : decode cL_sell 10 = .ok (.lastore, 1) := by decide +kernel
theorem dL_sell_11 : decode cL_sell 11 = .ok (.goto 15, 3) := by decide +kernel
theorem dL_sell_14 : decode cL_sell 14 = .ok (.astore 5, 2) := by decide +kernel
theorem dL_sell_16 : decode cL_sell 16 = .ok (.iconst 1, 1) := by decide +kernel
theorem dL_sell_17 : decode cL_sell 17 = .ok (.ireturn, 1) := by decide +kernel
theorem dL_sell_18 : decode cL_sell 18 = .ok (.astore 5, 2) := by decide +kernel
theorem dL_sell_20 : decode cL_sell 20 = .ok (.iconst 2, 1) := by decide +kernel
theorem dL_sell_21 : decode cL_sell 21 = .ok (.ireturn, 1) := by decide +kernel
theorem dL_sell_22 : decode cL_sell 22 = .ok (.astore 5, 2) := by decide +kernel
theorem dL_sell_24 : decode cL_sell 24 = .ok (.iconst 3, 1) := by decide +kernel
theorem dL_sell_25 : decode cL_sell 25 = .ok (.ireturn, 1) := by decide +kernel
theorem dL_sell_26 : decode cL_sell 26 = .ok (.iconst 0, 1) := by decide +kernel
theorem dL_sell_27 : decode cL_sell 27 = .ok (.ireturn, 1) := by decide +kernel
theorem dL_pass_0 : decode cL_pass 0 = .ok (.aload_n 2, 1) := by decide +kernel
theorem dL_pass_1 : decode cL_pass 1 = .ok (.iconst 0, 1) := by decide +kernel
theorem dL_pass_2 : decode cL_pass 2 = .ok (.aload_n 0, 1) := by decide +kernel
theorem dL_pass_3 : decode cL_pass 3 = .ok (.iload_n 1, 1) := by decide +kernel
theorem dL_pass_4 : decode cL_pass 4 = .ok (.invokevirtual 71, 3) := by decide +kernel
theorem dL_pass_7 : decode cL_pass 7 = .ok (.lastore, 1) := by decide +kernel
theorem dL_pass_8 : decode cL_pass 8 = .ok (.goto 9, 3) := by decide +kernel
theorem dL_pass_11 : decode cL_pass 11 = .ok (.astore_n 3, 1) := by decide +kernel
theorem dL_pass_12 : decode cL_pass 12 = .ok (.iconst 1, 1) := by decide +kernel
theorem dL_pass_13 : decode cL_pass 13 = .ok (.ireturn, 1) := by decide +kernel
theorem dL_pass_14 : decode cL_pass 14 = .ok (.astore_n 3, 1) := by decide +kernel
theorem dL_pass_15 : decode cL_pass 15 = .ok (.iconst 2, 1) := by decide +kernel
theorem dL_pass_16 : decode cL_pass 16 = .ok (.ireturn, 1) := by decide +kernel
theorem dL_pass_17 : decode cL_pass 17 = .ok (.iconst 0, 1) := by decide +kernel
theorem dL_pass_18 : decode cL_pass 18 = .ok (.ireturn, 1) := by decide +kernel
theorem dL_count_0 : decode cL_count 0 = .ok (.aload_n 2, 1) := by decide +kernel
theorem dL_count_1 : decode cL_count 1 = .ok (.iconst 0, 1) := by decide +kernel
theorem dL_count_2 : decode cL_count 2 = .ok (.aload_n 0, 1) := by decide +kernel
theorem dL_count_3 : decode cL_count 3 = .ok (.iload_n 1, 1) := by decide +kernel
theorem dL_count_4 : decode cL_count 4 = .ok (.invokevirtual 75, 3) := by decide +kernel
theorem dL_count_7 : decode cL_count 7 = .ok (.lastore, 1) := by decide +kernel
theorem dL_count_8 : decode cL_count 8 = .ok (.goto 6, 3) := by decide +kernel
theorem dL_count_11 : decode cL_count 11 = .ok (.astore_n 3, 1) := by decide +kernel
theorem dL_count_12 : decode cL_count 12 = .ok (.iconst 1, 1) := by decide +kernel
theorem dL_count_13 : decode cL_count 13 = .ok (.ireturn, 1) := by decide +kernel
theorem dL_count_14 : decode cL_count 14 = .ok (.iconst 0, 1) := by decide +kernel
theorem dL_count_15 : decode cL_count 15 = .ok (.ireturn, 1) := by decide +kernel
theorem dL_paysIn_0 : decode cL_paysIn 0 = .ok (.aload_n 2, 1) := by decide +kernel
theorem dL_paysIn_1 : decode cL_paysIn 1 = .ok (.iconst 0, 1) := by decide +kernel
theorem dL_paysIn_2 : decode cL_paysIn 2 = .ok (.aload_n 0, 1) := by decide +kernel
theorem dL_paysIn_3 : decode cL_paysIn 3 = .ok (.iload_n 1, 1) := by decide +kernel
theorem dL_paysIn_4 : decode cL_paysIn 4 = .ok (.invokevirtual 78, 3) := by decide +kernel
theorem dL_paysIn_7 : decode cL_paysIn 7 = .ok (.lastore, 1) := by decide +kernel
theorem dL_paysIn_8 : decode cL_paysIn 8 = .ok (.goto 6, 3) := by decide +kernel
theorem dL_paysIn_11 : decode cL_paysIn 11 = .ok (.astore_n 3, 1) := by decide +kernel
theorem dL_paysIn_12 : decode cL_paysIn 12 = .ok (.iconst 1, 1) := by decide +kernel
theorem dL_paysIn_13 : decode cL_paysIn 13 = .ok (.ireturn, 1) := by decide +kernel
theorem dL_paysIn_14 : decode cL_paysIn 14 = .ok (.iconst 0, 1) := by decide +kernel
theorem dL_paysIn_15 : decode cL_paysIn 15 = .ok (.ireturn, 1) := by decide +kernel
theorem dL_ladder_0 : decode cL_ladder 0 = .ok (.aload_n 3, 1) := by decide +kernel
theorem dL_ladder_1 : decode cL_ladder 1 = .ok (.iconst 0, 1) := by decide +kernel
theorem dL_ladder_2 : decode cL_ladder 2 = .ok (.aload_n 0, 1) := by decide +kernel
theorem dL_ladder_3 : decode cL_ladder 3 = .ok (.iload_n 1, 1) := by decide +kernel
theorem dL_ladder_4 : decode cL_ladder 4 = .ok (.iload_n 2, 1) := by decide +kernel
theorem dL_ladder_5 : decode cL_ladder 5 = .ok (.invokevirtual 81, 3) := by decide +kernel
theorem dL_ladder_8 : decode cL_ladder 8 = .ok (.i2l, 1) := by decide +kernel
theorem dL_ladder_9 : decode cL_ladder 9 = .ok (.lastore, 1) := by decide +kernel
theorem dL_ladder_10 : decode cL_ladder 10 = .ok (.goto 7, 3) := by decide +kernel
theorem dL_ladder_13 : decode cL_ladder 13 = .ok (.astore 4, 2) := by decide +kernel
theorem dL_ladder_15 : decode cL_ladder 15 = .ok (.iconst 1, 1) := by decide +kernel
theorem dL_ladder_16 : decode cL_ladder 16 = .ok (.ireturn, 1) := by decide +kernel
theorem dL_ladder_17 : decode cL_ladder 17 = .ok (.iconst 0, 1) := by decide +kernel
theorem dL_ladder_18 : decode cL_ladder 18 = .ok (.ireturn, 1) := by decide +kernel
theorem dL_best_0 : decode cL_best 0 = .ok (.aload_n 2, 1) := by decide +kernel
theorem dL_best_1 : decode cL_best 1 = .ok (.iconst 0, 1) := by decide +kernel
theorem dL_best_2 : decode cL_best 2 = .ok (.aload_n 0, 1) := by decide +kernel
theorem dL_best_3 : decode cL_best 3 = .ok (.iload_n 1, 1) := by decide +kernel
theorem dL_best_4 : decode cL_best 4 = .ok (.invokevirtual 84, 3) := by decide +kernel
theorem dL_best_7 : decode cL_best 7 = .ok (.i2l, 1) := by decide +kernel
theorem dL_best_8 : decode cL_best 8 = .ok (.lastore, 1) := by decide +kernel
theorem dL_best_9 : decode cL_best 9 = .ok (.goto 6, 3) := by decide +kernel
theorem dL_best_12 : decode cL_best 12 = .ok (.astore_n 3, 1) := by decide +kernel
theorem dL_best_13 : decode cL_best 13 = .ok (.iconst 1, 1) := by decide +kernel
theorem dL_best_14 : decode cL_best 14 = .ok (.ireturn, 1) := by decide +kernel
theorem dL_best_15 : decode cL_best 15 = .ok (.iconst 0, 1) := by decide +kernel
theorem dL_best_16 : decode cL_best 16 = .ok (.ireturn, 1) := by decide +kernel
