/-! the law's loop: its world, and the reference in one form -/
abbrev SM : Type := (Nat → Int32) × Int64 × (Nat → Int32) × (Nat → Int32) × (Nat → Int32) × (Nat → Int64)
abbrev YW (cI cJ : ClassId) (hm : Nat) (y : Nat × Nat × Nat × Nat) (μ : SM) : va_W := [eM hm y.1 y.2.1 y.2.2.1 y.2.2.2 μ.1 μ.2.1, eH cI y.1 μ.2.2.1, eO cI y.2.1 μ.2.2.2.1, eY cI y.2.2.1 μ.2.2.2.2.1, eP cJ y.2.2.2 μ.2.2.2.2.2]
abbrev XW (cI cJ cO : ClassId) (qk qo : Nat) (z : AZ) (f : Nat → Int64) (g : SG) : va_W := eU cJ qo f :: DW cI cO qk z g
def WL (cI cJ cO : ClassId) (qk qo hm : Nat) (z : AZ) (f : Nat → Int64) (g : SG) (y : Nat × Nat × Nat × Nat) (μ : SM) : va_W := XW cI cJ cO qk qo z f g ++ YW cI cJ hm y μ
def LE (p : Program) (s : State) (l : Launch) (m : MethodId) (meth : Method) (c : Code) (b L : Nat) (xs : Nat → Int32) (D : va_G) (cI cJ cO : ClassId) (ah : Nat) : Prop := p.tables.exec = Jvm.exec ∧ c.code = cL_law ∧ c.maxLocals = 9 ∧ s.vm.findClass RL = some m.cls ∧ (∀ w ∈ wsL_law, w.before #[Value.ref b] s = true) ∧ va_X b L xs s s.heap ∧ b < s.heap.size ∧ va_K D vwCl (ty3 cI cJ cO) s ∧ pz (fun q => s.heap.size ≤ q) (some ah) s s.heap ∧ px (fun q => s.heap.size ≤ q) s s.heap ∧ ncs s ∧ l.stackTraces = false
theorem wjr {D : va_G} {cl : List vw_C} {A0 : Nat → Prop} {X Y Y' : va_W} {H H1 : Heap} (hP : va_P D cl (X ++ Y) H) (hD : va_D A0 (X ++ Y)) (hA : ∀ q, H.size ≤ q → A0 q) (hP' : va_P D cl Y' H1) (hD' : va_D (va_A Y H.size) Y') (hk : ∀ q : Nat, q < H.size → ¬ va_A Y H.size q → H1[q]? = H[q]?) : va_P D cl (X ++ Y') H1 ∧ va_D A0 (X ++ Y') := by
  obtain ⟨j1, j2⟩ := wj (vp_perm List.perm_append_comm hP) (vd_perm List.perm_append_comm hD) hA hP' hD' hk
  exact ⟨vp_perm List.perm_append_comm j1, vd_perm List.perm_append_comm j2⟩
theorem wp_l {D : va_G} {cl : List vw_C} {X Y : va_W} {H : Heap} (h : va_P D cl (X ++ Y) H) : va_P D cl X H := vp_mem.mpr fun q hq => vp_mem.mp h q (List.mem_append_left _ hq)
theorem wp_r {D : va_G} {cl : List vw_C} {X Y : va_W} {H : Heap} (h : va_P D cl (X ++ Y) H) : va_P D cl Y H := vp_mem.mpr fun q hq => vp_mem.mp h q (List.mem_append_right _ hq)
theorem wd_l {A : Nat → Prop} {X Y : va_W} (h : va_D A (X ++ Y)) : va_D A X := by
  obtain ⟨h1, h2⟩ := vd_pw.mp h
  exact vd_pw.mpr ⟨(List.pairwise_append.mp h1).1, fun q hq => h2 q (List.mem_append_left _ hq)⟩
theorem wd_r {A : Nat → Prop} {X Y : va_W} (h : va_D A (X ++ Y)) : va_D A Y := by
  obtain ⟨h1, h2⟩ := vd_pw.mp h
  exact vd_pw.mpr ⟨(List.pairwise_append.mp h1).2.1, fun q hq => h2 q (List.mem_append_right _ hq)⟩
section RH
variable {p : Program} {l : Launch} {e : Env} {R : Room} {s : State} {m : MethodId} {args : Array Value} {below : List Frame} {meth : Method} {c : Code} {H : Heap} {locs : List Loc} {cells slots : Nat} {Q : State → Prop}
variable {pc : Nat} {ls : Array Slot} {rest st0 : List Value} {a : Array Value} {mc ms : Nat} {D : va_G} {cI cJ cO : ClassId} {qk qo : Nat} {A0 A1 : Nat → Prop} {H0 : Heap} {g : SG}
theorem xH {α : Type} {cs : List String} {lng : α → Int64} {rr : (α × SG) ⊕ String} (hr : va_Run p l e R s m args below meth c H locs cells slots mc ms (F0 m pc ls st0) rest (HQ D cI cJ cO qk qo A1 cs lng g rr a) A1) (hS : va_S A0 H0 H locs) (hf : ∀ q, A1 q → A0 q)
    (kk : ∀ (z : AZ) (f : Nat → Int64) (H1 : Heap) (locs1 : List Loc), (∀ u, rr = .inl u → f 0 = lng u.1) → va_P D vwCl (XW cI cJ cO qk qo z f (gR g rr)) H1 → va_D A1 (XW cI cJ cO qk qo z f (gR g rr)) → H.size ≤ H1.size → (∀ q : Nat, q < H.size → ¬ A1 q → H1[q]? = H[q]?) → va_S A0 H0 H1 locs1 → W p l e R s m args below meth c H1 locs1 (cells + mc) (slots + ms) Q (F0 m (pc + 3) ls (.int (kR cs rr) :: rest))) : W p l e R s m args below meth c H locs cells slots Q (F0 m pc ls st0) := by
  intro T hT X
  obtain ⟨v, st₀, t, T', L, h0, X', hL, e1, e2, ⟨z, f, hv, hfv, hP, hD, hF⟩, st⟩ := hr T hT X
  cases hv
  obtain ⟨k1, k2, k3⟩ := vx_keep h0 e1 hS (fun q _ h => hf q h) hf hL hF
  obtain ⟨t2, a1, b1⟩ := kk z f T'.heap (locs ++ L) hfv (by rw [e1]; exact hP) hD k1 k2 k3 T' rfl X'
  exact ⟨t2, st t2 a1, b1⟩
theorem cSd {r : UInt64} (hr : CallRun p l e R s m args below meth c H locs cells slots 0 0 (F0 m pc ls st0) rest (QSd r a) (fun _ => False))
    (kk : W p l e R s m args below meth c H locs cells slots Q (F0 m (pc + 3) ls (.double r :: rest))) : W p l e R s m args below meth c H locs cells slots Q (F0 m pc ls st0) := vp_callSd hr (fun w h => by rw [h]; exact kk)
end RH
def q_later (N : Nat) (μ : SM) (a0 : Int32) (a1 : Int32) : Option (Int32 × SM) := (f_X5_later N μ.1 a0 a1).map (fun r => (r.1, r.2, μ.2.1, μ.2.2.1, μ.2.2.2.1, μ.2.2.2.2.1, μ.2.2.2.2.2))
theorem v_later (l : Launch) (D : va_G) (cI cJ cO : ClassId) (hm : Nat) (y : Nat × Nat × Nat × Nat) (μ : SM) (sz N : Nat) (a0 : Int32) (a1 : Int32) (r : Int32 × SM) (hk : q_later N μ a0 a1 = some r) : Met l yX5_later wsX5_later ({ frames := 2, cells := 0, slots := 0, locals := 44 }) (va_Pc [.ref hm, .int a0, .int a1] (mP D (ty3 cI cJ cO) none (YW cI cJ hm y μ) sz)) (mQi D (va_A (YW cI cJ hm y μ) sz) r.1 (YW cI cJ hm y r.2)) 0 0 (va_A (YW cI cJ hm y μ) sz) := by
  obtain ⟨r, hf, rfl⟩ := Option.map_eq_some_iff.mp hk
  exact m_X5_later l D cI cJ cO hm y.1 y.2.1 y.2.2.1 y.2.2.2 μ.1 μ.2.1 μ.2.2.1 μ.2.2.2.1 μ.2.2.2.2.1 μ.2.2.2.2.2 sz a0 a1 N r hf
def q_weekday (N : Nat) (μ : SM) (a0 : Int32) : Option (Int32 × SM) := (f_X5_weekday_ N μ.1 a0).map (fun r => (r.1, r.2, μ.2.1, μ.2.2.1, μ.2.2.2.1, μ.2.2.2.2.1, μ.2.2.2.2.2))
theorem v_weekday (l : Launch) (D : va_G) (cI cJ cO : ClassId) (hm : Nat) (y : Nat × Nat × Nat × Nat) (μ : SM) (sz N : Nat) (a0 : Int32) (r : Int32 × SM) (hk : q_weekday N μ a0 = some r) : Met l yX5_weekday_ wsX5_weekday_ ({ frames := 2, cells := 0, slots := 0, locals := 44 }) (va_Pc [.ref hm, .int a0] (mP D (ty3 cI cJ cO) none (YW cI cJ hm y μ) sz)) (mQi D (va_A (YW cI cJ hm y μ) sz) r.1 (YW cI cJ hm y r.2)) 0 0 (va_A (YW cI cJ hm y μ) sz) := by
  obtain ⟨r, hf, rfl⟩ := Option.map_eq_some_iff.mp hk
  exact m_X5_weekday_ l D cI cJ cO hm y.1 y.2.1 y.2.2.1 y.2.2.2 μ.1 μ.2.1 μ.2.2.1 μ.2.2.2.1 μ.2.2.2.2.1 μ.2.2.2.2.2 sz a0 N r hf
def q_addHoliday (N : Nat) (μ : SM) (a0 : Int32) : Option (Int32 × SM) := (f_X5_addHoliday N μ.1 μ.2.2.1 a0).map (fun r => (r.1, r.2.1, μ.2.1, r.2.2, μ.2.2.2.1, μ.2.2.2.2.1, μ.2.2.2.2.2))
theorem v_addHoliday (l : Launch) (D : va_G) (cI cJ cO : ClassId) (hm : Nat) (y : Nat × Nat × Nat × Nat) (μ : SM) (sz N : Nat) (a0 : Int32) (r : Int32 × SM) (hk : q_addHoliday N μ a0 = some r) : Met l yX5_addHoliday wsX5_addHoliday ({ frames := 2, cells := 0, slots := 0, locals := 44 }) (va_Pc [.ref hm, .int a0] (mP D (ty3 cI cJ cO) none (YW cI cJ hm y μ) sz)) (mQi D (va_A (YW cI cJ hm y μ) sz) r.1 (YW cI cJ hm y r.2)) 0 0 (va_A (YW cI cJ hm y μ) sz) := by
  obtain ⟨r, hf, rfl⟩ := Option.map_eq_some_iff.mp hk
  exact m_X5_addHoliday l D cI cJ cO hm y.1 y.2.1 y.2.2.1 y.2.2.2 μ.1 μ.2.1 μ.2.2.1 μ.2.2.2.1 μ.2.2.2.2.1 μ.2.2.2.2.2 sz a0 N r hf
def q_working (N : Nat) (μ : SM) (a0 : Int32) : Option (Int32 × SM) := (f_X5_working N μ.1 μ.2.2.1 a0).map (fun r => (r.1, r.2, μ.2.1, μ.2.2.1, μ.2.2.2.1, μ.2.2.2.2.1, μ.2.2.2.2.2))
theorem v_working (l : Launch) (D : va_G) (cI cJ cO : ClassId) (hm : Nat) (y : Nat × Nat × Nat × Nat) (μ : SM) (sz N : Nat) (a0 : Int32) (r : Int32 × SM) (hk : q_working N μ a0 = some r) : Met l yX5_working wsX5_working ({ frames := 3, cells := 0, slots := 0, locals := 66 }) (va_Pc [.ref hm, .int a0] (mP D (ty3 cI cJ cO) none (YW cI cJ hm y μ) sz)) (mQi D (va_A (YW cI cJ hm y μ) sz) r.1 (YW cI cJ hm y r.2)) 0 0 (va_A (YW cI cJ hm y μ) sz) := by
  obtain ⟨r, hf, rfl⟩ := Option.map_eq_some_iff.mp hk
  exact m_X5_working l D cI cJ cO hm y.1 y.2.1 y.2.2.1 y.2.2.2 μ.1 μ.2.1 μ.2.2.1 μ.2.2.2.1 μ.2.2.2.2.1 μ.2.2.2.2.2 sz a0 N r hf
def q_addBond (N : Nat) (μ : SM) (a0 : Int32) (a1 : Int32) (a2 : Int32) (a3 : Int32) (a4 : Int32) : Option (Int32 × SM) := (f_X5_addBond N μ.1 μ.2.2.2.1 μ.2.2.2.2.1 a0 a1 a2 a3 a4).map (fun r => (r.1, r.2.1, μ.2.1, μ.2.2.1, r.2.2.1, r.2.2.2, μ.2.2.2.2.2))
theorem v_addBond (l : Launch) (D : va_G) (cI cJ cO : ClassId) (hm : Nat) (y : Nat × Nat × Nat × Nat) (μ : SM) (sz N : Nat) (a0 : Int32) (a1 : Int32) (a2 : Int32) (a3 : Int32) (a4 : Int32) (r : Int32 × SM) (hk : q_addBond N μ a0 a1 a2 a3 a4 = some r) : Met l yX5_addBond wsX5_addBond ({ frames := 2, cells := 1, slots := 14, locals := 60 }) (va_Pc [.ref hm, .int a0, .int a1, .int a2, .int a3, .int a4] (mP D (ty3 cI cJ cO) none (YW cI cJ hm y μ) sz)) (mQi D (va_A (YW cI cJ hm y μ) sz) r.1 (YW cI cJ hm y r.2)) 1 14 (va_A (YW cI cJ hm y μ) sz) := by
  obtain ⟨r, hf, rfl⟩ := Option.map_eq_some_iff.mp hk
  exact m_X5_addBond l D cI cJ cO hm y.1 y.2.1 y.2.2.1 y.2.2.2 μ.1 μ.2.1 μ.2.2.1 μ.2.2.2.1 μ.2.2.2.2.1 μ.2.2.2.2.2 sz a0 a1 a2 a3 a4 N r hf
def q_setSink (N : Nat) (μ : SM) (a0 : Int32) (a1 : Int32) (a2 : Int32) : Option (Int32 × SM) := (f_X5_setSink N μ.1 μ.2.2.2.1 μ.2.2.2.2.1 a0 a1 a2).map (fun r => (r.1, r.2.1, μ.2.1, μ.2.2.1, r.2.2, μ.2.2.2.2.1, μ.2.2.2.2.2))
theorem v_setSink (l : Launch) (D : va_G) (cI cJ cO : ClassId) (hm : Nat) (y : Nat × Nat × Nat × Nat) (μ : SM) (sz N : Nat) (a0 : Int32) (a1 : Int32) (a2 : Int32) (r : Int32 × SM) (hk : q_setSink N μ a0 a1 a2 = some r) : Met l yX5_setSink wsX5_setSink ({ frames := 3, cells := 0, slots := 0, locals := 68 }) (va_Pc [.ref hm, .int a0, .int a1, .int a2] (mP D (ty3 cI cJ cO) none (YW cI cJ hm y μ) sz)) (mQi D (va_A (YW cI cJ hm y μ) sz) r.1 (YW cI cJ hm y r.2)) 0 0 (va_A (YW cI cJ hm y μ) sz) := by
  obtain ⟨r, hf, rfl⟩ := Option.map_eq_some_iff.mp hk
  exact m_X5_setSink l D cI cJ cO hm y.1 y.2.1 y.2.2.1 y.2.2.2 μ.1 μ.2.1 μ.2.2.1 μ.2.2.2.1 μ.2.2.2.2.1 μ.2.2.2.2.2 sz a0 a1 a2 N r hf
def q_setCall (N : Nat) (μ : SM) (a0 : Int32) (a1 : Int32) (a2 : Int32) : Option (Int32 × SM) := (f_X5_setCall N μ.1 μ.2.2.2.1 μ.2.2.2.2.1 a0 a1 a2).map (fun r => (r.1, r.2.1, μ.2.1, μ.2.2.1, r.2.2, μ.2.2.2.2.1, μ.2.2.2.2.2))
theorem v_setCall (l : Launch) (D : va_G) (cI cJ cO : ClassId) (hm : Nat) (y : Nat × Nat × Nat × Nat) (μ : SM) (sz N : Nat) (a0 : Int32) (a1 : Int32) (a2 : Int32) (r : Int32 × SM) (hk : q_setCall N μ a0 a1 a2 = some r) : Met l yX5_setCall wsX5_setCall ({ frames := 3, cells := 0, slots := 0, locals := 66 }) (va_Pc [.ref hm, .int a0, .int a1, .int a2] (mP D (ty3 cI cJ cO) none (YW cI cJ hm y μ) sz)) (mQi D (va_A (YW cI cJ hm y μ) sz) r.1 (YW cI cJ hm y r.2)) 0 0 (va_A (YW cI cJ hm y μ) sz) := by
  obtain ⟨r, hf, rfl⟩ := Option.map_eq_some_iff.mp hk
  exact m_X5_setCall l D cI cJ cO hm y.1 y.2.1 y.2.2.1 y.2.2.2 μ.1 μ.2.1 μ.2.2.1 μ.2.2.2.1 μ.2.2.2.2.1 μ.2.2.2.2.2 sz a0 a1 a2 N r hf
def q_setRate (N : Nat) (μ : SM) (a0 : Int32) : Option (Int32 × SM) := (f_X5_setRate μ.1 a0).map (fun r => (r.1, r.2, μ.2.1, μ.2.2.1, μ.2.2.2.1, μ.2.2.2.2.1, μ.2.2.2.2.2))
theorem v_setRate (l : Launch) (D : va_G) (cI cJ cO : ClassId) (hm : Nat) (y : Nat × Nat × Nat × Nat) (μ : SM) (sz N : Nat) (a0 : Int32) (r : Int32 × SM) (hk : q_setRate N μ a0 = some r) : Met l yX5_setRate wsX5_setRate ({ frames := 1, cells := 0, slots := 0, locals := 22 }) (va_Pc [.ref hm, .int a0] (mP D (ty3 cI cJ cO) none (YW cI cJ hm y μ) sz)) (mQi D (va_A (YW cI cJ hm y μ) sz) r.1 (YW cI cJ hm y r.2)) 0 0 (va_A (YW cI cJ hm y μ) sz) := by
  obtain ⟨r, hf, rfl⟩ := Option.map_eq_some_iff.mp hk
  exact m_X5_setRate l D cI cJ cO hm y.1 y.2.1 y.2.2.1 y.2.2.2 μ.1 μ.2.1 μ.2.2.1 μ.2.2.2.1 μ.2.2.2.2.1 μ.2.2.2.2.2 sz a0 r hf
def q_bond (N : Nat) (μ : SM) (a0 : Int32) (a1 : Int32) : Option (Int32 × SM) := (f_X5_bond N μ.1 μ.2.2.2.1 a0 a1).map (fun r => (r.1, r.2, μ.2.1, μ.2.2.1, μ.2.2.2.1, μ.2.2.2.2.1, μ.2.2.2.2.2))
theorem v_bond (l : Launch) (D : va_G) (cI cJ cO : ClassId) (hm : Nat) (y : Nat × Nat × Nat × Nat) (μ : SM) (sz N : Nat) (a0 : Int32) (a1 : Int32) (r : Int32 × SM) (hk : q_bond N μ a0 a1 = some r) : Met l yX5_bond wsX5_bond ({ frames := 3, cells := 0, slots := 0, locals := 66 }) (va_Pc [.ref hm, .int a0, .int a1] (mP D (ty3 cI cJ cO) none (YW cI cJ hm y μ) sz)) (mQi D (va_A (YW cI cJ hm y μ) sz) r.1 (YW cI cJ hm y r.2)) 0 0 (va_A (YW cI cJ hm y μ) sz) := by
  obtain ⟨r, hf, rfl⟩ := Option.map_eq_some_iff.mp hk
  exact m_X5_bond l D cI cJ cO hm y.1 y.2.1 y.2.2.1 y.2.2.2 μ.1 μ.2.1 μ.2.2.1 μ.2.2.2.1 μ.2.2.2.2.1 μ.2.2.2.2.2 sz a0 a1 N r hf
def q_coupon (N : Nat) (μ : SM) (a0 : Int32) (a1 : Int32) (a2 : Int32) : Option (Int32 × SM) := (f_X5_coupon_ N μ.1 μ.2.2.1 μ.2.2.2.1 μ.2.2.2.2.1 a0 a1 a2).map (fun r => (r.1, r.2, μ.2.1, μ.2.2.1, μ.2.2.2.1, μ.2.2.2.2.1, μ.2.2.2.2.2))
theorem v_coupon (l : Launch) (D : va_G) (cI cJ cO : ClassId) (hm : Nat) (y : Nat × Nat × Nat × Nat) (μ : SM) (sz N : Nat) (a0 : Int32) (a1 : Int32) (a2 : Int32) (r : Int32 × SM) (hk : q_coupon N μ a0 a1 a2 = some r) : Met l yX5_coupon_ wsX5_coupon_ ({ frames := 5, cells := 0, slots := 0, locals := 118 }) (va_Pc [.ref hm, .int a0, .int a1, .int a2] (mP D (ty3 cI cJ cO) none (YW cI cJ hm y μ) sz)) (mQi D (va_A (YW cI cJ hm y μ) sz) r.1 (YW cI cJ hm y r.2)) 0 0 (va_A (YW cI cJ hm y μ) sz) := by
  obtain ⟨r, hf, rfl⟩ := Option.map_eq_some_iff.mp hk
  exact m_X5_coupon_ l D cI cJ cO hm y.1 y.2.1 y.2.2.1 y.2.2.2 μ.1 μ.2.1 μ.2.2.1 μ.2.2.2.1 μ.2.2.2.2.1 μ.2.2.2.2.2 sz a0 a1 a2 N r hf
def q_accrued (N : Nat) (μ : SM) (a0 : Int32) (a1 : Int32) : Option (Int32 × SM) := (f_X5_accrued N μ.1 μ.2.2.2.1 μ.2.2.2.2.1 a0 a1).map (fun r => (r.1, r.2, μ.2.1, μ.2.2.1, μ.2.2.2.1, μ.2.2.2.2.1, μ.2.2.2.2.2))
theorem v_accrued (l : Launch) (D : va_G) (cI cJ cO : ClassId) (hm : Nat) (y : Nat × Nat × Nat × Nat) (μ : SM) (sz N : Nat) (a0 : Int32) (a1 : Int32) (r : Int32 × SM) (hk : q_accrued N μ a0 a1 = some r) : Met l yX5_accrued wsX5_accrued ({ frames := 4, cells := 0, slots := 0, locals := 94 }) (va_Pc [.ref hm, .int a0, .int a1] (mP D (ty3 cI cJ cO) none (YW cI cJ hm y μ) sz)) (mQi D (va_A (YW cI cJ hm y μ) sz) r.1 (YW cI cJ hm y r.2)) 0 0 (va_A (YW cI cJ hm y μ) sz) := by
  obtain ⟨r, hf, rfl⟩ := Option.map_eq_some_iff.mp hk
  exact m_X5_accrued l D cI cJ cO hm y.1 y.2.1 y.2.2.1 y.2.2.2 μ.1 μ.2.1 μ.2.2.1 μ.2.2.2.1 μ.2.2.2.2.1 μ.2.2.2.2.2 sz a0 a1 N r hf
def q_worth (N : Nat) (μ : SM) (a0 : Int32) (a1 : Int32) : Option (Int32 × SM) := (f_X5_worth N μ.1 μ.2.2.2.1 μ.2.2.2.2.1 a0 a1).map (fun r => (r.1, r.2, μ.2.1, μ.2.2.1, μ.2.2.2.1, μ.2.2.2.2.1, μ.2.2.2.2.2))
theorem v_worth (l : Launch) (D : va_G) (cI cJ cO : ClassId) (hm : Nat) (y : Nat × Nat × Nat × Nat) (μ : SM) (sz N : Nat) (a0 : Int32) (a1 : Int32) (r : Int32 × SM) (hk : q_worth N μ a0 a1 = some r) : Met l yX5_worth wsX5_worth ({ frames := 6, cells := 0, slots := 0, locals := 151 }) (va_Pc [.ref hm, .int a0, .int a1] (mP D (ty3 cI cJ cO) none (YW cI cJ hm y μ) sz)) (mQi D (va_A (YW cI cJ hm y μ) sz) r.1 (YW cI cJ hm y r.2)) 0 0 (va_A (YW cI cJ hm y μ) sz) := by
  obtain ⟨r, hf, rfl⟩ := Option.map_eq_some_iff.mp hk
  exact m_X5_worth l D cI cJ cO hm y.1 y.2.1 y.2.2.1 y.2.2.2 μ.1 μ.2.1 μ.2.2.1 μ.2.2.2.1 μ.2.2.2.2.1 μ.2.2.2.2.2 sz a0 a1 N r hf
def q_yields (N : Nat) (μ : SM) (a0 : Int32) (a1 : Int32) : Option (Int32 × SM) := (f_X5_yields N μ.1 μ.2.2.2.1 μ.2.2.2.2.1 a0 a1).map (fun r => (r.1, r.2, μ.2.1, μ.2.2.1, μ.2.2.2.1, μ.2.2.2.2.1, μ.2.2.2.2.2))
theorem v_yields (l : Launch) (D : va_G) (cI cJ cO : ClassId) (hm : Nat) (y : Nat × Nat × Nat × Nat) (μ : SM) (sz N : Nat) (a0 : Int32) (a1 : Int32) (r : Int32 × SM) (hk : q_yields N μ a0 a1 = some r) : Met l yX5_yields wsX5_yields ({ frames := 7, cells := 0, slots := 0, locals := 178 }) (va_Pc [.ref hm, .int a0, .int a1] (mP D (ty3 cI cJ cO) none (YW cI cJ hm y μ) sz)) (mQi D (va_A (YW cI cJ hm y μ) sz) r.1 (YW cI cJ hm y r.2)) 0 0 (va_A (YW cI cJ hm y μ) sz) := by
  obtain ⟨r, hf, rfl⟩ := Option.map_eq_some_iff.mp hk
  exact m_X5_yields l D cI cJ cO hm y.1 y.2.1 y.2.2.1 y.2.2.2 μ.1 μ.2.1 μ.2.2.1 μ.2.2.2.1 μ.2.2.2.2.1 μ.2.2.2.2.2 sz a0 a1 N r hf
def q_moves (N : Nat) (μ : SM) (a0 : Int32) (a1 : Int32) : Option (Int32 × SM) := (f_X5_moves N μ.1 μ.2.2.2.1 μ.2.2.2.2.1 a0 a1).map (fun r => (r.1, r.2, μ.2.1, μ.2.2.1, μ.2.2.2.1, μ.2.2.2.2.1, μ.2.2.2.2.2))
theorem v_moves (l : Launch) (D : va_G) (cI cJ cO : ClassId) (hm : Nat) (y : Nat × Nat × Nat × Nat) (μ : SM) (sz N : Nat) (a0 : Int32) (a1 : Int32) (r : Int32 × SM) (hk : q_moves N μ a0 a1 = some r) : Met l yX5_moves wsX5_moves ({ frames := 6, cells := 0, slots := 0, locals := 151 }) (va_Pc [.ref hm, .int a0, .int a1] (mP D (ty3 cI cJ cO) none (YW cI cJ hm y μ) sz)) (mQi D (va_A (YW cI cJ hm y μ) sz) r.1 (YW cI cJ hm y r.2)) 0 0 (va_A (YW cI cJ hm y μ) sz) := by
  obtain ⟨r, hf, rfl⟩ := Option.map_eq_some_iff.mp hk
  exact m_X5_moves l D cI cJ cO hm y.1 y.2.1 y.2.2.1 y.2.2.2 μ.1 μ.2.1 μ.2.2.1 μ.2.2.2.1 μ.2.2.2.2.1 μ.2.2.2.2.2 sz a0 a1 N r hf
def q_callsAt (N : Nat) (μ : SM) (a0 : Int32) : Option (Int32 × SM) := (f_X5_callsAt N μ.1 μ.2.2.2.1 μ.2.2.2.2.1 a0).map (fun r => (r.1, r.2, μ.2.1, μ.2.2.1, μ.2.2.2.1, μ.2.2.2.2.1, μ.2.2.2.2.2))
theorem v_callsAt (l : Launch) (D : va_G) (cI cJ cO : ClassId) (hm : Nat) (y : Nat × Nat × Nat × Nat) (μ : SM) (sz N : Nat) (a0 : Int32) (r : Int32 × SM) (hk : q_callsAt N μ a0 = some r) : Met l yX5_callsAt wsX5_callsAt ({ frames := 5, cells := 0, slots := 0, locals := 129 }) (va_Pc [.ref hm, .int a0] (mP D (ty3 cI cJ cO) none (YW cI cJ hm y μ) sz)) (mQi D (va_A (YW cI cJ hm y μ) sz) r.1 (YW cI cJ hm y r.2)) 0 0 (va_A (YW cI cJ hm y μ) sz) := by
  obtain ⟨r, hf, rfl⟩ := Option.map_eq_some_iff.mp hk
  exact m_X5_callsAt l D cI cJ cO hm y.1 y.2.1 y.2.2.1 y.2.2.2 μ.1 μ.2.1 μ.2.2.1 μ.2.2.2.1 μ.2.2.2.2.1 μ.2.2.2.2.2 sz a0 N r hf
def q_buy (N : Nat) (μ : SM) (a0 : Int32) (a1 : Int32) (a2 : Int32) : Option (Int64 × SM) := (f_X5_buy N μ.1 μ.2.1 μ.2.2.1 μ.2.2.2.1 μ.2.2.2.2.1 a0 a1 a2).map (fun r => (r.1, r.2.1, r.2.2.1, μ.2.2.1, r.2.2.2, μ.2.2.2.2.1, μ.2.2.2.2.2))
theorem v_buy (l : Launch) (D : va_G) (cI cJ cO : ClassId) (hm : Nat) (y : Nat × Nat × Nat × Nat) (μ : SM) (sz N : Nat) (a0 : Int32) (a1 : Int32) (a2 : Int32) (r : Int64 × SM) (hk : q_buy N μ a0 a1 a2 = some r) : Met l yX5_buy wsX5_buy ({ frames := 5, cells := 0, slots := 0, locals := 116 }) (va_Pc [.ref hm, .int a0, .int a1, .int a2] (mP D (ty3 cI cJ cO) none (YW cI cJ hm y μ) sz)) (mQl D (va_A (YW cI cJ hm y μ) sz) r.1 (YW cI cJ hm y r.2)) 0 0 (va_A (YW cI cJ hm y μ) sz) := by
  obtain ⟨r, hf, rfl⟩ := Option.map_eq_some_iff.mp hk
  exact m_X5_buy l D cI cJ cO hm y.1 y.2.1 y.2.2.1 y.2.2.2 μ.1 μ.2.1 μ.2.2.1 μ.2.2.2.1 μ.2.2.2.2.1 μ.2.2.2.2.2 sz a0 a1 a2 N r hf
def q_sell (N : Nat) (μ : SM) (a0 : Int32) (a1 : Int32) (a2 : Int32) : Option (Int64 × SM) := (f_X5_sell N μ.1 μ.2.1 μ.2.2.1 μ.2.2.2.1 μ.2.2.2.2.1 a0 a1 a2).map (fun r => (r.1, r.2.1, r.2.2.1, μ.2.2.1, r.2.2.2, μ.2.2.2.2.1, μ.2.2.2.2.2))
theorem v_sell (l : Launch) (D : va_G) (cI cJ cO : ClassId) (hm : Nat) (y : Nat × Nat × Nat × Nat) (μ : SM) (sz N : Nat) (a0 : Int32) (a1 : Int32) (a2 : Int32) (r : Int64 × SM) (hk : q_sell N μ a0 a1 a2 = some r) : Met l yX5_sell wsX5_sell ({ frames := 5, cells := 0, slots := 0, locals := 116 }) (va_Pc [.ref hm, .int a0, .int a1, .int a2] (mP D (ty3 cI cJ cO) none (YW cI cJ hm y μ) sz)) (mQl D (va_A (YW cI cJ hm y μ) sz) r.1 (YW cI cJ hm y r.2)) 0 0 (va_A (YW cI cJ hm y μ) sz) := by
  obtain ⟨r, hf, rfl⟩ := Option.map_eq_some_iff.mp hk
  exact m_X5_sell l D cI cJ cO hm y.1 y.2.1 y.2.2.1 y.2.2.2 μ.1 μ.2.1 μ.2.2.1 μ.2.2.2.1 μ.2.2.2.2.1 μ.2.2.2.2.2 sz a0 a1 a2 N r hf
def q_pass (N : Nat) (μ : SM) (a0 : Int32) : Option (Int64 × SM) := (f_X5_pass N μ.1 μ.2.1 μ.2.2.1 μ.2.2.2.1 μ.2.2.2.2.1 μ.2.2.2.2.2 a0).map (fun r => (r.1, r.2.1, r.2.2.1, μ.2.2.1, r.2.2.2.1, μ.2.2.2.2.1, r.2.2.2.2))
theorem v_pass (l : Launch) (D : va_G) (cI cJ cO : ClassId) (hm : Nat) (y : Nat × Nat × Nat × Nat) (μ : SM) (sz N : Nat) (a0 : Int32) (r : Int64 × SM) (hk : q_pass N μ a0 = some r) : Met l yX5_pass wsX5_pass ({ frames := 6, cells := 0, slots := 0, locals := 154 }) (va_Pc [.ref hm, .int a0] (mP D (ty3 cI cJ cO) none (YW cI cJ hm y μ) sz)) (mQl D (va_A (YW cI cJ hm y μ) sz) r.1 (YW cI cJ hm y r.2)) 0 0 (va_A (YW cI cJ hm y μ) sz) := by
  obtain ⟨r, hf, rfl⟩ := Option.map_eq_some_iff.mp hk
  exact m_X5_pass l D cI cJ cO hm y.1 y.2.1 y.2.2.1 y.2.2.2 μ.1 μ.2.1 μ.2.2.1 μ.2.2.2.1 μ.2.2.2.2.1 μ.2.2.2.2.2 sz a0 N r hf
def q_count (N : Nat) (μ : SM) (a0 : Int32) : Option (Int64 × SM) := (f_X5_count N μ.1 μ.2.1 μ.2.2.2.1 μ.2.2.2.2.1 μ.2.2.2.2.2 a0).map (fun r => (r.1, r.2, μ.2.1, μ.2.2.1, μ.2.2.2.1, μ.2.2.2.2.1, μ.2.2.2.2.2))
theorem v_count (l : Launch) (D : va_G) (cI cJ cO : ClassId) (hm : Nat) (y : Nat × Nat × Nat × Nat) (μ : SM) (sz N : Nat) (a0 : Int32) (r : Int64 × SM) (hk : q_count N μ a0 = some r) : Met l yX5_count wsX5_count ({ frames := 7, cells := 0, slots := 0, locals := 179 }) (va_Pc [.ref hm, .int a0] (mP D (ty3 cI cJ cO) none (YW cI cJ hm y μ) sz)) (mQl D (va_A (YW cI cJ hm y μ) sz) r.1 (YW cI cJ hm y r.2)) 0 0 (va_A (YW cI cJ hm y μ) sz) := by
  obtain ⟨r, hf, rfl⟩ := Option.map_eq_some_iff.mp hk
  exact m_X5_count l D cI cJ cO hm y.1 y.2.1 y.2.2.1 y.2.2.2 μ.1 μ.2.1 μ.2.2.1 μ.2.2.2.1 μ.2.2.2.2.1 μ.2.2.2.2.2 sz a0 N r hf
def q_paysIn (N : Nat) (μ : SM) (a0 : Int32) : Option (Int64 × SM) := (f_X5_paysIn N μ.1 μ.2.2.2.1 μ.2.2.2.2.1 a0).map (fun r => (r.1, r.2, μ.2.1, μ.2.2.1, μ.2.2.2.1, μ.2.2.2.2.1, μ.2.2.2.2.2))
theorem v_paysIn (l : Launch) (D : va_G) (cI cJ cO : ClassId) (hm : Nat) (y : Nat × Nat × Nat × Nat) (μ : SM) (sz N : Nat) (a0 : Int32) (r : Int64 × SM) (hk : q_paysIn N μ a0 = some r) : Met l yX5_paysIn wsX5_paysIn ({ frames := 4, cells := 0, slots := 0, locals := 95 }) (va_Pc [.ref hm, .int a0] (mP D (ty3 cI cJ cO) none (YW cI cJ hm y μ) sz)) (mQl D (va_A (YW cI cJ hm y μ) sz) r.1 (YW cI cJ hm y r.2)) 0 0 (va_A (YW cI cJ hm y μ) sz) := by
  obtain ⟨r, hf, rfl⟩ := Option.map_eq_some_iff.mp hk
  exact m_X5_paysIn l D cI cJ cO hm y.1 y.2.1 y.2.2.1 y.2.2.2 μ.1 μ.2.1 μ.2.2.1 μ.2.2.2.1 μ.2.2.2.2.1 μ.2.2.2.2.2 sz a0 N r hf
def q_ladder (N : Nat) (μ : SM) (a0 : Int32) (a1 : Int32) : Option (Int32 × SM) := (f_X5_ladder N μ.1 μ.2.1 μ.2.2.2.1 μ.2.2.2.2.1 a0 a1).map (fun r => (r.1, r.2, μ.2.1, μ.2.2.1, μ.2.2.2.1, μ.2.2.2.2.1, μ.2.2.2.2.2))
theorem v_ladder (l : Launch) (D : va_G) (cI cJ cO : ClassId) (hm : Nat) (y : Nat × Nat × Nat × Nat) (μ : SM) (sz N : Nat) (a0 : Int32) (a1 : Int32) (r : Int32 × SM) (hk : q_ladder N μ a0 a1 = some r) : Met l yX5_ladder wsX5_ladder ({ frames := 6, cells := 0, slots := 0, locals := 151 }) (va_Pc [.ref hm, .int a0, .int a1] (mP D (ty3 cI cJ cO) none (YW cI cJ hm y μ) sz)) (mQi D (va_A (YW cI cJ hm y μ) sz) r.1 (YW cI cJ hm y r.2)) 0 0 (va_A (YW cI cJ hm y μ) sz) := by
  obtain ⟨r, hf, rfl⟩ := Option.map_eq_some_iff.mp hk
  exact m_X5_ladder l D cI cJ cO hm y.1 y.2.1 y.2.2.1 y.2.2.2 μ.1 μ.2.1 μ.2.2.1 μ.2.2.2.1 μ.2.2.2.2.1 μ.2.2.2.2.2 sz a0 a1 N r hf
def q_best (N : Nat) (μ : SM) (a0 : Int32) : Option (Int32 × SM) := (f_X5_best N μ.1 μ.2.2.2.1 μ.2.2.2.2.1 a0).map (fun r => (r.1, r.2, μ.2.1, μ.2.2.1, μ.2.2.2.1, μ.2.2.2.2.1, μ.2.2.2.2.2))
theorem v_best (l : Launch) (D : va_G) (cI cJ cO : ClassId) (hm : Nat) (y : Nat × Nat × Nat × Nat) (μ : SM) (sz N : Nat) (a0 : Int32) (r : Int32 × SM) (hk : q_best N μ a0 = some r) : Met l yX5_best wsX5_best ({ frames := 7, cells := 0, slots := 0, locals := 178 }) (va_Pc [.ref hm, .int a0] (mP D (ty3 cI cJ cO) none (YW cI cJ hm y μ) sz)) (mQi D (va_A (YW cI cJ hm y μ) sz) r.1 (YW cI cJ hm y r.2)) 0 0 (va_A (YW cI cJ hm y μ) sz) := by
  obtain ⟨r, hf, rfl⟩ := Option.map_eq_some_iff.mp hk
  exact m_X5_best l D cI cJ cO hm y.1 y.2.1 y.2.2.1 y.2.2.2 μ.1 μ.2.1 μ.2.2.1 μ.2.2.2.1 μ.2.2.2.2.1 μ.2.2.2.2.2 sz a0 N r hf
def q_years (N : Nat) (μ : SM) : Option (UInt64 × SM) := (f_X5_years N μ.1 μ.2.2.2.1).map (fun r => (r.1, r.2, μ.2.1, μ.2.2.1, μ.2.2.2.1, μ.2.2.2.2.1, μ.2.2.2.2.2))
theorem v_years (l : Launch) (D : va_G) (cI cJ cO : ClassId) (hm : Nat) (y : Nat × Nat × Nat × Nat) (μ : SM) (sz N : Nat) (r : UInt64 × SM) (hk : q_years N μ = some r) : Met l yX5_years wsX5_years ({ frames := 1, cells := 0, slots := 0, locals := 22 }) (va_Pc [.ref hm] (mP D (ty3 cI cJ cO) none (YW cI cJ hm y μ) sz)) (mQd D (va_A (YW cI cJ hm y μ) sz) r.1 (YW cI cJ hm y r.2)) 0 0 (va_A (YW cI cJ hm y μ) sz) := by
  obtain ⟨r, hf, rfl⟩ := Option.map_eq_some_iff.mp hk
  exact m_X5_years l D cI cJ cO hm y.1 y.2.1 y.2.2.1 y.2.2.2 μ.1 μ.2.1 μ.2.2.1 μ.2.2.2.1 μ.2.2.2.2.1 μ.2.2.2.2.2 sz N r hf
def q_digest (N : Nat) (μ : SM) : Option (Int64 × SM) := (f_X5_digest N μ.1 μ.2.1 μ.2.2.1 μ.2.2.2.1 μ.2.2.2.2.1 μ.2.2.2.2.2).map (fun r => (r.1, r.2, μ.2.1, μ.2.2.1, μ.2.2.2.1, μ.2.2.2.2.1, μ.2.2.2.2.2))
theorem v_digest (l : Launch) (D : va_G) (cI cJ cO : ClassId) (hm : Nat) (y : Nat × Nat × Nat × Nat) (μ : SM) (sz N : Nat) (r : Int64 × SM) (hk : q_digest N μ = some r) : Met l yX5_digest wsX5_digest ({ frames := 7, cells := 0, slots := 0, locals := 179 }) (va_Pc [.ref hm] (mP D (ty3 cI cJ cO) none (YW cI cJ hm y μ) sz)) (mQl D (va_A (YW cI cJ hm y μ) sz) r.1 (YW cI cJ hm y r.2)) 0 0 (va_A (YW cI cJ hm y μ) sz) := by
  obtain ⟨r, hf, rfl⟩ := Option.map_eq_some_iff.mp hk
  exact m_X5_digest l D cI cJ cO hm y.1 y.2.1 y.2.2.1 y.2.2.2 μ.1 μ.2.1 μ.2.2.1 μ.2.2.2.1 μ.2.2.2.2.1 μ.2.2.2.2.2 sz N r hf
