/-! THE CLAIM OUT OF ONE WALK OF THE LAW'S BODY. Your part is whole_start (and what it stands on); all else here is the same for every law, but numbers. -/
def R_law : String := "BondDeskLaw"
def lw_P (b : Addr) (xs : List Int32) (args : Array Value) (s : State) : Prop := args = #[.ref b] ∧ s.IntsAt b xs ∧ xs.length ≤ 3072 ∧ (Jvm.Cond.and given_1 narrow_1).before args s = true
/-- what a walk over the start with the record d0 says of its end, said of the start itself -/
theorem lw_closed {s t : State} {o : Outcome} {d0 : Drawn} {L : List Loc} {k n : Nat} (hd0 : s.drawn.sameBut d0 lw_cs) (hv : ∃ v, o = .returned v) (hW : (s.setDrawn d0).WarmedH t.vm) (hs : (s.setDrawn d0).sameButNew ({ t with vm := s.vm } : State) L k n) : State.butDraws s t lw_cs (fun t1 => Framed s o t1 L k n) := by
  have h2 : t.drawn = d0 := congrArg State.drawn hs.1
  refine ⟨⟨hv, hW, State.sameButNew.setDrawn hs s.drawn⟩, ?_, by decide⟩
  rw [h2]
  exact hd0
def lw_Q (_ : Array Value) (s : State) (o : Outcome) (t : State) : Prop := o = .returned (some (.int 1)) ∧ State.butDraws s t lw_cs (fun t1 => Framed s o t1 [] 601024 7293034)
def lw_Z (below : List Frame) (a : Array Value) (s : State) : State → Prop := fun t => ∃ o, t.status = .running ∧ Ended t below o ∧ lw_Q a s o t
/-- the law's own end, with 1 on the stack, nothing written that was there before, its room as the claim has it; d0: the record of draws at this point (at the entry s.drawn: begin with 'refine W.base ?_' and 'have hd0 := Drawn.sameBut.refl s.drawn lw_cs') -/
theorem lw_ret {p : Program} {l : Launch} {e : Env} {s : State} {m : MethodId} {below : List Frame} {meth : Method} {c : Code} {b : Nat} {d0 : Drawn} (hd0 : s.drawn.sameBut d0 lw_cs) (hx : p.tables.exec = Jvm.exec) (hb : c.code = code) (hr : meth.sig.returnType = ret) (hlocks : meth.locks = false) {pc : Nat} {H : Heap} {ls : Array Slot} (hdg : decode code pc = .ok (.ireturn, 1)) : W p l e room_1 (s.setDrawn d0) m #[Value.ref b] below meth c H [] 601024 7293034 (lw_Z below #[Value.ref b] s) (F0 m pc ls [.int 1]) := by
  intro T hT X
  obtain ⟨fs, hret, hrun, hended, hW, hframe⟩ := X.leave (v := some (.int 1)) (hlocks := hlocks) (fun h => by rw [hr] at h; cases h)
  have hmeth' : T.vm.method? m = some meth := X.method'
  refine ⟨T.setFrames fs, ?_, .returned (some (.int 1)), hrun, hended, rfl, lw_closed hd0 ⟨_, rfl⟩ hW hframe⟩
  jvm_step X.here [X.here.top, hx, hb, hdg, hmeth', hr, ret, narrow_b1]
  (try refine ⟨rfl, ?_⟩); (try refine ⟨rfl, ?_⟩)
  first | (intro acts; rw [hret _ acts rfl rfl rfl]) | rw [hret _ _ rfl rfl rfl]
  exact Steps.refl _
/-- what holds at the law's entry: the machine, the code, the tables' words (any of lw_tbl by 'hts w (by decide +kernel)'), the script of L ints xs at the cell b, what the Statement gives of the start (any of its parts by flat_of_before) -/
def lw_At (p : Program) (s : State) (m : MethodId) (meth : Method) (c : Code) (b L : Nat) (xs : Nat → Int32) : Prop :=
  p.tables.exec = Jvm.exec ∧ c.code = code ∧ meth.sig.returnType = ret ∧ c.maxLocals = 9 ∧ s.vm.findClass R_law = some m.cls ∧ (∀ w ∈ lw_tbl, w.before #[Value.ref b] s = true) ∧ va_X b L xs s s.heap ∧ b < s.heap.size ∧ meth.locks = false ∧ (Jvm.Cond.and given_1 narrow_1).before #[Value.ref b] s = true
/-! the law's loop (printed by gen5.py) -/
def OkM {α β : Type} (Inv : SG → SM → Prop) (cs : List String) (lc : α → Int64) (lm : β → Int64) (g : SG) (oR : Option ((α × SG) ⊕ String)) (or5 : Option (β × SM)) : Prop := ∃ R r, oR = some R ∧ or5 = some r ∧ (∀ E, R = .inr E → E ∈ cs) ∧ r.2.1 0 = kR cs R ∧ (∀ u, R = .inl u → lc u.1 = lm r.1) ∧ Inv (gR g R) r.2
def OkAll (N : Nat) (Inv : SG → SM → Prop) : Prop := ∀ (g : SG) (μ : SM), Inv g μ → (g.1 4).toNatClampNeg = g.2.2.2.2.1 ∧ (∀ a0 a1 : Int32, OkM Inv ["java/lang/IllegalArgumentException"] Int32.toInt64 Int32.toInt64 g (k_later N g a0 a1) (q_later N μ a0 a1)) ∧ (∀ a0 : Int32, OkM Inv ["java/lang/IllegalArgumentException"] Int32.toInt64 Int32.toInt64 g (k_weekday N g a0) (q_weekday N μ a0)) ∧ (∀ a0 : Int32, OkM Inv ["java/lang/IllegalArgumentException", "java/lang/IllegalStateException"] Int32.toInt64 Int32.toInt64 g (k_addHoliday N g a0) (q_addHoliday N μ a0)) ∧ (∀ a0 : Int32, OkM Inv ["java/lang/IllegalArgumentException"] Int32.toInt64 Int32.toInt64 g (k_working N g a0) (q_working N μ a0)) ∧ (∀ a0 a1 a2 a3 a4 : Int32, OkM Inv ["java/lang/IllegalArgumentException", "java/lang/IllegalStateException"] Int32.toInt64 Int32.toInt64 g (k_addBond N g a0 a1 a2 a3 a4) (q_addBond N μ a0 a1 a2 a3 a4)) ∧ (∀ a0 a1 a2 : Int32, OkM Inv ["java/lang/IndexOutOfBoundsException", "java/lang/IllegalArgumentException", "java/lang/IllegalStateException"] Int32.toInt64 Int32.toInt64 g (k_setSink N g a0 a1 a2) (q_setSink N μ a0 a1 a2)) ∧ (∀ a0 a1 a2 : Int32, OkM Inv ["java/lang/IndexOutOfBoundsException", "java/lang/IllegalArgumentException", "java/lang/IllegalStateException"] Int32.toInt64 Int32.toInt64 g (k_setCall N g a0 a1 a2) (q_setCall N μ a0 a1 a2)) ∧ (∀ a0 : Int32, OkM Inv ["java/lang/IllegalArgumentException"] Int32.toInt64 Int32.toInt64 g (k_setRate N g a0) (q_setRate N μ a0)) ∧ (∀ a0 a1 : Int32, OkM Inv ["java/lang/IndexOutOfBoundsException"] Int32.toInt64 Int32.toInt64 g (k_bond N g a0 a1) (q_bond N μ a0 a1)) ∧ (∀ a0 a1 a2 : Int32, OkM Inv ["java/lang/IndexOutOfBoundsException"] Int32.toInt64 Int32.toInt64 g (k_coupon N g a0 a1 a2) (q_coupon N μ a0 a1 a2)) ∧ (∀ a0 a1 : Int32, OkM Inv ["java/lang/IndexOutOfBoundsException", "java/lang/IllegalArgumentException"] Int32.toInt64 Int32.toInt64 g (k_accrued N g a0 a1) (q_accrued N μ a0 a1)) ∧ (∀ a0 a1 : Int32, OkM Inv ["java/lang/IndexOutOfBoundsException", "java/lang/IllegalArgumentException"] Int32.toInt64 Int32.toInt64 g (k_worth N g a0 a1) (q_worth N μ a0 a1)) ∧ (∀ a0 a1 : Int32, OkM Inv ["java/lang/IndexOutOfBoundsException", "java/lang/IllegalArgumentException"] Int32.toInt64 Int32.toInt64 g (k_yields N g a0 a1) (q_yields N μ a0 a1)) ∧ (∀ a0 a1 : Int32, OkM Inv ["java/lang/IndexOutOfBoundsException", "java/lang/IllegalArgumentException"] Int32.toInt64 Int32.toInt64 g (k_moves N g a0 a1) (q_moves N μ a0 a1)) ∧ (∀ a0 : Int32, OkM Inv ["java/lang/IndexOutOfBoundsException"] Int32.toInt64 Int32.toInt64 g (k_callsAt N g a0) (q_callsAt N μ a0)) ∧ (∀ a0 a1 a2 : Int32, OkM Inv ["java/lang/IndexOutOfBoundsException", "java/lang/IllegalArgumentException", "java/lang/IllegalStateException"] (fun v : Int64 => v) (fun v : Int64 => v) g (k_buy N g a0 a1 a2) (q_buy N μ a0 a1 a2)) ∧ (∀ a0 a1 a2 : Int32, OkM Inv ["java/lang/IndexOutOfBoundsException", "java/lang/IllegalArgumentException", "java/lang/IllegalStateException"] (fun v : Int64 => v) (fun v : Int64 => v) g (k_sell N g a0 a1 a2) (q_sell N μ a0 a1 a2)) ∧ (∀ a0 : Int32, OkM Inv ["java/lang/IllegalArgumentException", "java/lang/IllegalStateException"] (fun v : Int64 => v) (fun v : Int64 => v) g (k_pass N g a0) (q_pass N μ a0)) ∧ (∀ a0 : Int32, OkM Inv ["java/lang/IndexOutOfBoundsException"] (fun v : Int64 => v) (fun v : Int64 => v) g (k_count N g a0) (q_count N μ a0)) ∧ (∀ a0 : Int32, OkM Inv ["java/lang/IllegalArgumentException"] (fun v : Int64 => v) (fun v : Int64 => v) g (k_paysIn N g a0) (q_paysIn N μ a0)) ∧ (∀ a0 a1 : Int32, OkM Inv ["java/lang/IllegalArgumentException"] Int32.toInt64 Int32.toInt64 g (k_ladder N g a0 a1) (q_ladder N μ a0 a1)) ∧ (∀ a0 : Int32, OkM Inv ["java/lang/IllegalArgumentException"] Int32.toInt64 Int32.toInt64 g (k_best N g a0) (q_best N μ a0)) ∧ (∃ r, f_X4_years N g.1 g.2.2.2.2.1 g.2.2.2.2.2.1 g.2.2.2.2.2.2.1 = some r.1 ∧ q_years N μ = some r ∧ Inv g r.2) ∧ (∃ r, f_X4_digest N g.1 g.2.1 g.2.2.1 g.2.2.2.1 g.2.2.2.2.1 g.2.2.2.2.2.1 g.2.2.2.2.2.2.1 g.2.2.2.2.2.2.2.1 g.2.2.2.2.2.2.2.2.1 g.2.2.2.2.2.2.2.2.2 = some r.1 ∧ q_digest N μ = some r ∧ Inv g r.2)
theorem ofn_toInt {n : Nat} (h : n < 2147483648) : (Int32.ofNat n).toInt = n := by rw [← Int32.ofInt_eq_ofNat]; exact Int32.toInt_ofInt_of_le (by omega) (by omega)
theorem in_k {L n k : Nat} (hk : k ≤ 5) (hL : L ≤ 3072) (h : 6 * n + 6 ≤ L) : vp_in (Int32.ofNat (6 * n) + Int32.ofNat k) L := by
  rw [← Int32.ofNat_add]
  have h1 := ofn_toInt (n := 6 * n + k) (by omega)
  unfold vp_in
  intro hc
  rcases hc with hc | hc
  · have := Int32.lt_iff_toInt_lt.mp hc
    rw [h1] at this
    have e0 : (0 : Int32).toInt = 0 := by decide
    omega
  · have e : (Int32.ofNat (6 * n + k)).toNatClampNeg = 6 * n + k := Int32.toNatClampNeg_ofNat_of_lt (by omega)
    rw [e] at hc
    omega
set_option maxHeartbeats 8000000 in
set_option maxRecDepth 100000 in
theorem lw_loop {p : Program} {l : Launch} {e : Env} {s : State} {m : MethodId} {below : List Frame} {meth : Method} {c : Code} {b L : Nat} {xs : Nat → Int32} {D : va_G} {cI cJ cO : ClassId} {ah : Nat} (E : LE p s l m meth c b L xs D cI cJ cO ah) (hr : meth.sig.returnType = ret) (hlocks : meth.locks = false) (hL : L ≤ 3072) {N : Nat} {Inv : SG → SM → Prop} (hOk : OkAll N Inv) {qk qo hm : Nat} {y : Nat × Nat × Nat × Nat} : ∀ (k n : Nat), L + 6 ≤ 6 * n + 6 * k → 6 * n ≤ L + 5 → ∀ (cells slots : Nat), cells ≤ 100 + 9 * n → slots ≤ 2000 + 182 * n → ∀ (H : Heap) (locs : List Loc) (z : AZ) (f : Nat → Int64) (g : SG) (μ : SM), Inv g μ → va_P D vwCl (WL cI cJ cO qk qo hm z f g y μ) H → va_D (fun q => s.heap.size ≤ q) (WL cI cJ cO qk qo hm z f g y μ) → va_S (fun q => s.heap.size ≤ q) s.heap H locs → ∀ ls : Array Slot, lv_has ls 9 [(4, .int (Int32.ofNat (6 * n))), (0, .ref b), (1, .ref qk), (2, .ref hm), (3, .ref qo)] → W p l e room_1 s m #[.ref b] below meth c H locs cells slots (lw_Z below #[Value.ref b] s) (F0 m 23 ls []) := by
  intro k
  induction k with
  | zero => intro n h1 h2; omega
  | succ k ih =>
    intro n hk1 hn cells slots hc hs H locs z f g μ hI hP hD hS ls hl
    obtain ⟨hx, hb, hml, hown, hts, hX, hbl, hK, hZ, hT, hNc, hl0⟩ := id E
    have hbA : ¬ (fun q : Nat => s.heap.size ≤ q) b := Nat.not_le.mpr hbl
    have hd0 := Drawn.sameBut.refl s.drawn lw_cs
    refine lv_iload hx hb dL_law_23 (lv_at hl 0 rfl) ?_
    refine lv_aload_n hx hb dL_law_25 rfl (lv_at hl 1 rfl) ?_
    refine va_slen hx hb hX hbl hbA hS dL_law_26 ?_
    refine lv_bipush (v := 6) hx hb dL_law_27 (by decide) ?_
    refine lv_isub hx hb dL_law_29 ?_
    have t1 := ofn_toInt (n := 6 * n) (by omega)
    have t2 : (Int32.ofNat L - 6).toInt = (L : Int) - 6 := by
      have e : Int32.ofNat L - 6 = Int32.ofInt ((L : Int) - 6) := by rw [Int32.ofInt_sub, Int32.ofInt_eq_ofNat]; rfl
      rw [e]; exact Int32.toInt_ofInt_of_le (by omega) (by omega)
    refine lv_icmp_gt (tgt := 1692) hx hb dL_law_30 (by decide) (fun c0 => ?_) (fun c0 => ?_)
    · refine lv_iconst (v := 1) hx hb dL_law_1692 (by decide) ?_
      refine va_forget (fun q hq => hS.2.2 q hq) ?_
      refine W.widen (k := 601024) (n := 7293034) (by omega) (by omega) ?_
      exact lw_ret (d0 := s.drawn) hd0 hx hb hr hlocks dL_law_1693
    · have hle : 6 * n + 6 ≤ L := by
        apply Decidable.byContradiction; intro hh; apply c0; refine Int32.lt_iff_toInt_lt.mpr ?_; rw [t1, t2]; omega
      have hi0 : vp_in (Int32.ofNat (6 * n)) L := by have := in_k (k := 0) (by omega) hL hle; rwa [show Int32.ofNat (6 * n) + Int32.ofNat 0 = Int32.ofNat (6 * n) from by rw [← Int32.ofNat_add]; rfl] at this
      have hi : ∀ k : Int32, k ∈ [1, 2, 3, 4, 5] → vp_in (Int32.ofNat (6 * n) + k) L := by
        intro k hk
        simp only [List.mem_cons, List.not_mem_nil, or_false] at hk
        rcases hk with rfl | rfl | rfl | rfl | rfl
        · exact in_k (k := 1) (by omega) hL hle
        · exact in_k (k := 2) (by omega) hL hle
        · exact in_k (k := 3) (by omega) hL hle
        · exact in_k (k := 4) (by omega) hL hle
        · exact in_k (k := 5) (by omega) hL hle
      have next : ∀ (C9 S9 : Nat), C9 ≤ 9 → S9 ≤ 182 → ∀ (g2 : SG) (μ2 : SM), Inv g2 μ2 → ∀ (z1 : AZ) (f1 : Nat → Int64) (H1 : Heap) (locs1 : List Loc) (ls1 : Array Slot), va_P D vwCl (WL cI cJ cO qk qo hm z1 f1 g2 y μ2) H1 → va_D (fun q => s.heap.size ≤ q) (WL cI cJ cO qk qo hm z1 f1 g2 y μ2) → va_S (fun q => s.heap.size ≤ q) s.heap H1 locs1 → lv_has ls1 9 [(4, .int (Int32.ofNat (6 * n))), (0, .ref b), (1, .ref qk), (2, .ref hm), (3, .ref qo)] → W p l e room_1 s m #[.ref b] below meth c H1 locs1 (cells + C9) (slots + S9) (lw_Z below #[Value.ref b] s) (F0 m 1686 ls1 []) := by
        intro C9 S9 hC9 hS9 g2 μ2 hI2 z1 f1 H1 locs1 ls1 hP1 hD1 hS1 hl1
        refine lv_iinc (v := Int32.ofNat (6 * (n + 1))) (lv' := [(4, .int (Int32.ofNat (6 * (n + 1)))), (0, .ref b), (1, .ref qk), (2, .ref hm), (3, .ref qo)]) hx hb dL_law_1686 hl1 (k := 0) rfl (by rw [show 6 * (n + 1) = 6 * n + 6 from by omega, Int32.ofNat_add]; rfl) (by decide) rfl (fun ls hl => ?_)
        refine lv_goto (tgt := 23) hx hb dL_law_1689 (by decide) ?_
        exact ih (n + 1) (by omega) (by omega) _ _ (by omega) (by omega) H1 locs1 z1 f1 g2 μ2 hI2 hP1 hD1 hS1 ls hl
      obtain ⟨hn0, o_later, o_weekday, o_addHoliday, o_working, o_addBond, o_setSink, o_setCall, o_setRate, o_bond, o_coupon, o_accrued, o_worth, o_yields, o_moves, o_callsAt, o_buy, o_sell, o_pass, o_count, o_paysIn, o_ladder, o_best, ⟨r_y, y1, y2, y3⟩, ⟨r_d, d1, d2, d3⟩⟩ := hOk g μ hI
      refine lv_aload_n hx hb dL_law_33 rfl (lv_at hl 1 rfl) ?_
      refine lv_iload hx hb dL_law_34 (lv_at hl 0 rfl) ?_
      refine va_sld hx hb hX hbl hbA hS hi0 dL_law_36 ?_
      refine lv_bipush (v := 31) hx hb dL_law_37 (by decide) ?_
      refine lv_iand hx hb dL_law_39 ?_
      generalize xs (Int32.ofNat (6 * n)).toNatClampNeg &&& 31 = w
      by_cases w0 : w = 0
      · refine lv_tableIn (off := 112) (tgt := 152) hx hb dL_law_40 (by rw [w0]; decide) (by rw [w0]; decide) (by rw [w0]; rfl) (by decide) ?_
        obtain ⟨R, r5, e1, e2, e3, e4, e5, e6⟩ := o_later (xs (Int32.ofNat (6 * n) + 1).toNatClampNeg) (xs (Int32.ofNat (6 * n) + 2).toNatClampNeg)
        exact lc_later E hi (by omega) (by omega) hP hD hS hl e1 e2 e3 e4 e5 (next 2 12 (by omega) (by omega) _ _ e6)
      by_cases w1 : w = 1
      · refine lv_tableIn (off := 180) (tgt := 220) hx hb dL_law_40 (by rw [w1]; decide) (by rw [w1]; decide) (by rw [w1]; rfl) (by decide) ?_
        obtain ⟨R, r5, e1, e2, e3, e4, e5, e6⟩ := o_weekday (xs (Int32.ofNat (6 * n) + 1).toNatClampNeg)
        exact lc_weekday E hi (by omega) (by omega) hP hD hS hl e1 e2 e3 e4 e5 (next 1 6 (by omega) (by omega) _ _ e6)
      by_cases w2 : w = 2
      · refine lv_tableIn (off := 236) (tgt := 276) hx hb dL_law_40 (by rw [w2]; decide) (by rw [w2]; decide) (by rw [w2]; rfl) (by decide) ?_
        obtain ⟨R, r5, e1, e2, e3, e4, e5, e6⟩ := o_addHoliday (xs (Int32.ofNat (6 * n) + 1).toNatClampNeg)
        exact lc_addHoliday E hi (by omega) (by omega) hP hD hS hl e1 e2 e3 e4 e5 (next 2 12 (by omega) (by omega) _ _ e6)
      by_cases w3 : w = 3
      · refine lv_tableIn (off := 292) (tgt := 332) hx hb dL_law_40 (by rw [w3]; decide) (by rw [w3]; decide) (by rw [w3]; rfl) (by decide) ?_
        obtain ⟨R, r5, e1, e2, e3, e4, e5, e6⟩ := o_working (xs (Int32.ofNat (6 * n) + 1).toNatClampNeg)
        exact lc_working E hi (by omega) (by omega) hP hD hS hl e1 e2 e3 e4 e5 (next 2 12 (by omega) (by omega) _ _ e6)
      by_cases w4 : w = 4
      · refine lv_tableIn (off := 348) (tgt := 388) hx hb dL_law_40 (by rw [w4]; decide) (by rw [w4]; decide) (by rw [w4]; rfl) (by decide) ?_
        obtain ⟨R, r5, e1, e2, e3, e4, e5, e6⟩ := o_addBond (xs (Int32.ofNat (6 * n) + 1).toNatClampNeg) (xs (Int32.ofNat (6 * n) + 2).toNatClampNeg) (xs (Int32.ofNat (6 * n) + 3).toNatClampNeg) (xs (Int32.ofNat (6 * n) + 4).toNatClampNeg) (xs (Int32.ofNat (6 * n) + 5).toNatClampNeg)
        exact lc_addBond E hi (by omega) (by omega) hP hD hS hl hn0 e1 e2 e3 e4 e5 (next 9 182 (by omega) (by omega) _ _ e6)
      by_cases w5 : w = 5
      · refine lv_tableIn (off := 452) (tgt := 492) hx hb dL_law_40 (by rw [w5]; decide) (by rw [w5]; decide) (by rw [w5]; rfl) (by decide) ?_
        obtain ⟨R, r5, e1, e2, e3, e4, e5, e6⟩ := o_setSink (xs (Int32.ofNat (6 * n) + 1).toNatClampNeg) (xs (Int32.ofNat (6 * n) + 2).toNatClampNeg) (xs (Int32.ofNat (6 * n) + 3).toNatClampNeg)
        exact lc_setSink E hi (by omega) (by omega) hP hD hS hl e1 e2 e3 e4 e5 (next 3 18 (by omega) (by omega) _ _ e6)
      by_cases w6 : w = 6
      · refine lv_tableIn (off := 532) (tgt := 572) hx hb dL_law_40 (by rw [w6]; decide) (by rw [w6]; decide) (by rw [w6]; rfl) (by decide) ?_
        obtain ⟨R, r5, e1, e2, e3, e4, e5, e6⟩ := o_setCall (xs (Int32.ofNat (6 * n) + 1).toNatClampNeg) (xs (Int32.ofNat (6 * n) + 2).toNatClampNeg) (xs (Int32.ofNat (6 * n) + 3).toNatClampNeg)
        exact lc_setCall E hi (by omega) (by omega) hP hD hS hl e1 e2 e3 e4 e5 (next 3 18 (by omega) (by omega) _ _ e6)
      by_cases w7 : w = 7
      · refine lv_tableIn (off := 612) (tgt := 652) hx hb dL_law_40 (by rw [w7]; decide) (by rw [w7]; decide) (by rw [w7]; rfl) (by decide) ?_
        obtain ⟨R, r5, e1, e2, e3, e4, e5, e6⟩ := o_setRate (xs (Int32.ofNat (6 * n) + 1).toNatClampNeg)
        exact lc_setRate E hi (by omega) (by omega) hP hD hS hl e1 e2 e3 e4 e5 (next 1 6 (by omega) (by omega) _ _ e6)
      by_cases w8 : w = 8
      · refine lv_tableIn (off := 668) (tgt := 708) hx hb dL_law_40 (by rw [w8]; decide) (by rw [w8]; decide) (by rw [w8]; rfl) (by decide) ?_
        obtain ⟨R, r5, e1, e2, e3, e4, e5, e6⟩ := o_bond (xs (Int32.ofNat (6 * n) + 1).toNatClampNeg) (xs (Int32.ofNat (6 * n) + 2).toNatClampNeg)
        exact lc_bond E hi (by omega) (by omega) hP hD hS hl e1 e2 e3 e4 e5 (next 2 12 (by omega) (by omega) _ _ e6)
      by_cases w9 : w = 9
      · refine lv_tableIn (off := 736) (tgt := 776) hx hb dL_law_40 (by rw [w9]; decide) (by rw [w9]; decide) (by rw [w9]; rfl) (by decide) ?_
        obtain ⟨R, r5, e1, e2, e3, e4, e5, e6⟩ := o_coupon (xs (Int32.ofNat (6 * n) + 1).toNatClampNeg) (xs (Int32.ofNat (6 * n) + 2).toNatClampNeg) (xs (Int32.ofNat (6 * n) + 3).toNatClampNeg)
        exact lc_coupon E hi (by omega) (by omega) hP hD hS hl e1 e2 e3 e4 e5 (next 2 12 (by omega) (by omega) _ _ e6)
      by_cases w10 : w = 10
      · refine lv_tableIn (off := 816) (tgt := 856) hx hb dL_law_40 (by rw [w10]; decide) (by rw [w10]; decide) (by rw [w10]; rfl) (by decide) ?_
        obtain ⟨R, r5, e1, e2, e3, e4, e5, e6⟩ := o_accrued (xs (Int32.ofNat (6 * n) + 1).toNatClampNeg) (xs (Int32.ofNat (6 * n) + 2).toNatClampNeg)
        exact lc_accrued E hi (by omega) (by omega) hP hD hS hl e1 e2 e3 e4 e5 (next 2 12 (by omega) (by omega) _ _ e6)
      by_cases w11 : w = 11
      · refine lv_tableIn (off := 884) (tgt := 924) hx hb dL_law_40 (by rw [w11]; decide) (by rw [w11]; decide) (by rw [w11]; rfl) (by decide) ?_
        obtain ⟨R, r5, e1, e2, e3, e4, e5, e6⟩ := o_worth (xs (Int32.ofNat (6 * n) + 1).toNatClampNeg) (xs (Int32.ofNat (6 * n) + 2).toNatClampNeg)
        exact lc_worth E hi (by omega) (by omega) hP hD hS hl e1 e2 e3 e4 e5 (next 2 12 (by omega) (by omega) _ _ e6)
      by_cases w12 : w = 12
      · refine lv_tableIn (off := 952) (tgt := 992) hx hb dL_law_40 (by rw [w12]; decide) (by rw [w12]; decide) (by rw [w12]; rfl) (by decide) ?_
        obtain ⟨R, r5, e1, e2, e3, e4, e5, e6⟩ := o_yields (xs (Int32.ofNat (6 * n) + 1).toNatClampNeg) (xs (Int32.ofNat (6 * n) + 2).toNatClampNeg)
        exact lc_yields E hi (by omega) (by omega) hP hD hS hl e1 e2 e3 e4 e5 (next 2 12 (by omega) (by omega) _ _ e6)
      by_cases w13 : w = 13
      · refine lv_tableIn (off := 1020) (tgt := 1060) hx hb dL_law_40 (by rw [w13]; decide) (by rw [w13]; decide) (by rw [w13]; rfl) (by decide) ?_
        obtain ⟨R, r5, e1, e2, e3, e4, e5, e6⟩ := o_moves (xs (Int32.ofNat (6 * n) + 1).toNatClampNeg) (xs (Int32.ofNat (6 * n) + 2).toNatClampNeg)
        exact lc_moves E hi (by omega) (by omega) hP hD hS hl e1 e2 e3 e4 e5 (next 2 12 (by omega) (by omega) _ _ e6)
      by_cases w14 : w = 14
      · refine lv_tableIn (off := 1088) (tgt := 1128) hx hb dL_law_40 (by rw [w14]; decide) (by rw [w14]; decide) (by rw [w14]; rfl) (by decide) ?_
        obtain ⟨R, r5, e1, e2, e3, e4, e5, e6⟩ := o_callsAt (xs (Int32.ofNat (6 * n) + 1).toNatClampNeg)
        exact lc_callsAt E hi (by omega) (by omega) hP hD hS hl e1 e2 e3 e4 e5 (next 1 6 (by omega) (by omega) _ _ e6)
      by_cases w15 : w = 15
      · refine lv_tableIn (off := 1144) (tgt := 1184) hx hb dL_law_40 (by rw [w15]; decide) (by rw [w15]; decide) (by rw [w15]; rfl) (by decide) ?_
        obtain ⟨R, r5, e1, e2, e3, e4, e5, e6⟩ := o_buy (xs (Int32.ofNat (6 * n) + 1).toNatClampNeg) (xs (Int32.ofNat (6 * n) + 2).toNatClampNeg) (xs (Int32.ofNat (6 * n) + 3).toNatClampNeg)
        exact lc_buy E hi (by omega) (by omega) hP hD hS hl e1 e2 e3 e4 e5 (next 6 36 (by omega) (by omega) _ _ e6)
      by_cases w16 : w = 16
      · refine lv_tableIn (off := 1223) (tgt := 1263) hx hb dL_law_40 (by rw [w16]; decide) (by rw [w16]; decide) (by rw [w16]; rfl) (by decide) ?_
        obtain ⟨R, r5, e1, e2, e3, e4, e5, e6⟩ := o_sell (xs (Int32.ofNat (6 * n) + 1).toNatClampNeg) (xs (Int32.ofNat (6 * n) + 2).toNatClampNeg) (xs (Int32.ofNat (6 * n) + 3).toNatClampNeg)
        exact lc_sell E hi (by omega) (by omega) hP hD hS hl e1 e2 e3 e4 e5 (next 5 30 (by omega) (by omega) _ _ e6)
      by_cases w17 : w = 17
      · refine lv_tableIn (off := 1302) (tgt := 1342) hx hb dL_law_40 (by rw [w17]; decide) (by rw [w17]; decide) (by rw [w17]; rfl) (by decide) ?_
        obtain ⟨R, r5, e1, e2, e3, e4, e5, e6⟩ := o_pass (xs (Int32.ofNat (6 * n) + 1).toNatClampNeg)
        exact lc_pass E hi (by omega) (by omega) hP hD hS hl e1 e2 e3 e4 e5 (next 1 6 (by omega) (by omega) _ _ e6)
      by_cases w18 : w = 18
      · refine lv_tableIn (off := 1357) (tgt := 1397) hx hb dL_law_40 (by rw [w18]; decide) (by rw [w18]; decide) (by rw [w18]; rfl) (by decide) ?_
        obtain ⟨R, r5, e1, e2, e3, e4, e5, e6⟩ := o_count (xs (Int32.ofNat (6 * n) + 1).toNatClampNeg)
        exact lc_count E hi (by omega) (by omega) hP hD hS hl e1 e2 e3 e4 e5 (next 1 6 (by omega) (by omega) _ _ e6)
      by_cases w19 : w = 19
      · refine lv_tableIn (off := 1412) (tgt := 1452) hx hb dL_law_40 (by rw [w19]; decide) (by rw [w19]; decide) (by rw [w19]; rfl) (by decide) ?_
        obtain ⟨R, r5, e1, e2, e3, e4, e5, e6⟩ := o_paysIn (xs (Int32.ofNat (6 * n) + 1).toNatClampNeg)
        exact lc_paysIn E hi (by omega) (by omega) hP hD hS hl e1 e2 e3 e4 e5 (next 1 6 (by omega) (by omega) _ _ e6)
      by_cases w20 : w = 20
      · refine lv_tableIn (off := 1467) (tgt := 1507) hx hb dL_law_40 (by rw [w20]; decide) (by rw [w20]; decide) (by rw [w20]; rfl) (by decide) ?_
        obtain ⟨R, r5, e1, e2, e3, e4, e5, e6⟩ := o_ladder (xs (Int32.ofNat (6 * n) + 1).toNatClampNeg) (xs (Int32.ofNat (6 * n) + 2).toNatClampNeg)
        exact lc_ladder E hi (by omega) (by omega) hP hD hS hl e1 e2 e3 e4 e5 (next 3 18 (by omega) (by omega) _ _ e6)
      by_cases w21 : w = 21
      · refine lv_tableIn (off := 1535) (tgt := 1575) hx hb dL_law_40 (by rw [w21]; decide) (by rw [w21]; decide) (by rw [w21]; rfl) (by decide) ?_
        obtain ⟨R, r5, e1, e2, e3, e4, e5, e6⟩ := o_best (xs (Int32.ofNat (6 * n) + 1).toNatClampNeg)
        exact lc_best E hi (by omega) (by omega) hP hD hS hl e1 e2 e3 e4 e5 (next 1 6 (by omega) (by omega) _ _ e6)
      by_cases w22 : w = 22
      · refine lv_tableIn (off := 1591) (tgt := 1631) hx hb dL_law_40 (by rw [w22]; decide) (by rw [w22]; decide) (by rw [w22]; rfl) (by decide) ?_
        exact lc_years E hi (by omega) (by omega) hP hD hS hl y1 y2 (next 0 0 (by omega) (by omega) _ _ y3)
      by_cases w23 : w = 23
      · refine lv_tableIn (off := 1632) (tgt := 1672) hx hb dL_law_40 (by rw [w23]; decide) (by rw [w23]; decide) (by rw [w23]; rfl) (by decide) ?_
        exact lc_digest E hi (by omega) (by omega) hP hD hS hl d1 d2 (next 0 0 (by omega) (by omega) _ _ d3)
      have u0 : ¬ w.toInt = 0 := ne_ti w0
      have u1 : ¬ w.toInt = 1 := ne_ti w1
      have u2 : ¬ w.toInt = 2 := ne_ti w2
      have u3 : ¬ w.toInt = 3 := ne_ti w3
      have u4 : ¬ w.toInt = 4 := ne_ti w4
      have u5 : ¬ w.toInt = 5 := ne_ti w5
      have u6 : ¬ w.toInt = 6 := ne_ti w6
      have u7 : ¬ w.toInt = 7 := ne_ti w7
      have u8 : ¬ w.toInt = 8 := ne_ti w8
      have u9 : ¬ w.toInt = 9 := ne_ti w9
      have u10 : ¬ w.toInt = 10 := ne_ti w10
      have u11 : ¬ w.toInt = 11 := ne_ti w11
      have u12 : ¬ w.toInt = 12 := ne_ti w12
      have u13 : ¬ w.toInt = 13 := ne_ti w13
      have u14 : ¬ w.toInt = 14 := ne_ti w14
      have u15 : ¬ w.toInt = 15 := ne_ti w15
      have u16 : ¬ w.toInt = 16 := ne_ti w16
      have u17 : ¬ w.toInt = 17 := ne_ti w17
      have u18 : ¬ w.toInt = 18 := ne_ti w18
      have u19 : ¬ w.toInt = 19 := ne_ti w19
      have u20 : ¬ w.toInt = 20 := ne_ti w20
      have u21 : ¬ w.toInt = 21 := ne_ti w21
      have u22 : ¬ w.toInt = 22 := ne_ti w22
      have u23 : ¬ w.toInt = 23 := ne_ti w23
      refine lv_tableOut (tgt := 1686) hx hb dL_law_40 (by omega) (by decide) ?_
      exact next 0 0 (by omega) (by omega) g μ hI z f H locs ls hP hD hS hl
