/-! the desk as one thing; the rule of consequence; the public methods of the class over the whole desk -/
abbrev SG : Type := (Nat → Int32) × Int64 × (Nat → Int32) × (Nat → Int64) × Nat × (Nat → Nat → Int32) × (Nat → Nat → Int32) × (Nat → Nat → Int64) × (Nat → Nat) × (Nat → Nat → Int32)
abbrev AZ : Type := Nat × Nat × Nat × (Nat → Nat) × (Nat → Nat) × (Nat → Nat)
abbrev DK (cI cO : ClassId) (qk : Nat) (z : AZ) (g : SG) : va_W := [eK qk z.1 z.2.1 z.2.2.1 g.1 g.2.1, eG cI z.1 g.2.2.1, eF cO z.2.1 g.2.2.2.2.1 z.2.2.2.1, eL z.2.2.1 g.2.2.2.1]
abbrev FM (cI : ClassId) (z : AZ) (g : SG) : Nat → va_W := fam cI z.2.2.2.1 z.2.2.2.2.1 z.2.2.2.2.2 g.2.2.2.2.2.1 g.2.2.2.2.2.2.1 g.2.2.2.2.2.2.2.1 g.2.2.2.2.2.2.2.2.1 g.2.2.2.2.2.2.2.2.2
abbrev DW (cI cO : ClassId) (qk : Nat) (z : AZ) (g : SG) : va_W := DK cI cO qk z g ++ bl g.2.2.2.2.1 (FM cI z g)
def rw1 {α : Type} (g : SG) (r : α ⊕ String) : (α × SG) ⊕ String := match r with
  | .inl v => .inl (v, g)
  | .inr E => .inr E
def rw2 {α β : Type} (r : β ⊕ String) (fv : β → α) (fg : β → SG) : (α × SG) ⊕ String := match r with
  | .inl u => .inl (fv u, fg u)
  | .inr E => .inr E
def UQ {α : Type} (D : va_G) (cI cO : ClassId) (qk : Nat) (A : Nat → Prop) (mk : α → Value) (r : (α × SG) ⊕ String) : Array Value → State → Outcome → State → Prop := fun _ st o t => ∃ u : α × SG, r = .inl u ∧ o = .returned (some (mk u.1)) ∧ ∃ z : AZ, va_P D vwCl (DW cI cO qk z u.2) t.heap ∧ va_D A (DW cI cO qk z u.2) ∧ va_F A st t
theorem vx_mono {l : Launch} {y : MethodName} {ws : List Cond} {rm : Room} {Pc Pc' : Array Value → State → Prop} {Qc Qc' : Array Value → State → Outcome → State → Prop} {XC XC' : String → State → State → Prop} {mc ms : Nat} {free free' : Addr → Prop} (h : vx_Met l y ws rm Pc Qc XC mc ms free) (hP : ∀ a s, Pc' a s → Pc a s) (hf : ∀ q, free q → free' q) (hQ : ∀ a s o t, Pc' a s → Qc a s o t → Qc' a s o t) (hX : ∀ a s E t, Pc' a s → XC E s t → XC' E s t) : vx_Met l y ws rm Pc' Qc' XC' mc ms free' := by
  refine MetFree.mono h hP (fun _ _ _ _ _ k => k) (fun a s o t hp hq => ?_)
  rcases hq with ⟨h1, L, hL, h2⟩ | ⟨q, e, E, ce, L, hx, r1, r2, r3, r4, r5, r6⟩
  · exact Or.inl ⟨hQ a s o t hp h1, L, hL, fun q hq => hf _ (h2 q hq)⟩
  · exact Or.inr ⟨q, e, E, ce, L, hX a s E t hp hx, r1, r2, r3, r4, r5, fun z hz => hf _ (r6 z hz)⟩
theorem va_A_app {X Y : va_W} {sz q : Nat} (h : va_A X sz q) : va_A (X ++ Y) sz q := by
  rcases h with ⟨k, e, hk⟩ | h
  · have hm := List.mem_append_left Y (List.mem_of_getElem? hk)
    obtain ⟨k', hk'⟩ := List.getElem?_of_mem hm
    exact Or.inl ⟨k', e, hk'⟩
  · exact Or.inr h
theorem va_A_mem {X Y : va_W} {sz q : Nat} (hs : ∀ p ∈ X, p ∈ Y) (h : va_A X sz q) : va_A Y sz q := by
  rcases h with ⟨k, e, hk⟩ | h
  · obtain ⟨k', hk'⟩ := List.getElem?_of_mem (hs _ (List.mem_of_getElem? hk))
    exact Or.inl ⟨k', e, hk'⟩
  · exact Or.inr h
theorem va_F_mem {X Y : va_W} {sz : Nat} {st t : State} (hs : ∀ p ∈ X, p ∈ Y) (h : va_F (va_A X sz) st t) : va_F (va_A Y sz) st t := ⟨h.1, fun q h1 h2 => h.2 q h1 (fun h3 => h2 (va_A_mem hs h3))⟩
theorem va_A_get {X : va_W} {sz q : Nat} (h : va_A X sz q) : (∃ p ∈ X, p.1 = q) ∨ sz ≤ q := by
  rcases h with ⟨k, e, hk⟩ | h
  · exact Or.inl ⟨_, List.mem_of_getElem? hk, rfl⟩
  · exact Or.inr h
/-- a part of a world is changed, the rest stands -/
theorem wj {D : va_G} {cl : List vw_C} {A0 : Nat → Prop} {X X' Y : va_W} {H H1 : Heap} (hP : va_P D cl (X ++ Y) H) (hD : va_D A0 (X ++ Y)) (hA : ∀ q, H.size ≤ q → A0 q) (hP' : va_P D cl X' H1) (hD' : va_D (va_A X H.size) X') (hk : ∀ q : Nat, q < H.size → ¬ va_A X H.size q → H1[q]? = H[q]?) : va_P D cl (X' ++ Y) H1 ∧ va_D A0 (X' ++ Y) := by
  obtain ⟨hp, hm⟩ := vd_pw.mp hD
  obtain ⟨p1, p2, p3⟩ := List.pairwise_append.mp hp
  obtain ⟨q1, q2⟩ := vd_pw.mp hD'
  have hy : ∀ q ∈ Y, q.1 < H.size := fun q hq => (vp_mem.mp hP q (List.mem_append_right _ hq)).lt
  refine ⟨vp_mem.mpr fun q hq => ?_, vd_pw.mpr ⟨List.pairwise_append.mpr ⟨q1, p2, fun a ha b hb => ?_⟩, fun q hq => ?_⟩⟩
  · rcases List.mem_append.mp hq with h | h
    · exact vp_mem.mp hP' q h
    · have h0 := vp_mem.mp hP q (List.mem_append_right _ h)
      refine h0.kept (hk q.1 h0.lt (fun hz => ?_))
      rcases va_A_get hz with ⟨p, hp9, e⟩ | hz
      · exact p3 p hp9 q h e
      · exact absurd h0.lt (by omega)
  · rcases va_A_get (q2 a ha) with ⟨p, hp9, e⟩ | hz
    · rw [← e]; exact p3 p hp9 b hb
    · have := hy b hb
      omega
  · rcases List.mem_append.mp hq with h | h
    · rcases va_A_get (q2 q h) with ⟨p, hp9, e⟩ | hz
      · rw [← e]; exact hm p (List.mem_append_left _ hp9)
      · exact hA _ hz
    · exact hm q (List.mem_append_right _ h)
/-- the same where the addresses of the whole stay -/
theorem wj2 {D : va_G} {cl : List vw_C} {A0 : Nat → Prop} {X X' W W' : va_W} {H H1 : Heap} (hP : va_P D cl W H) (hD : va_D A0 W) (hP' : va_P D cl X' H1) (hk : ∀ q : Nat, q < H.size → ¬ va_A X H.size q → H1[q]? = H[q]?) (hm : ∀ q ∈ W', q ∈ X' ∨ (q ∈ W ∧ ∀ p ∈ X, p.1 ≠ q.1)) (ha : W'.map (fun q => q.1) = W.map (fun q => q.1)) : va_P D cl W' H1 ∧ va_D A0 W' := by
  obtain ⟨hp, hA⟩ := vd_pw.mp hD
  refine ⟨vp_mem.mpr fun q hq => ?_, vd_pw.mpr ⟨?_, fun q hq => ?_⟩⟩
  · rcases hm q hq with h | ⟨h, hne⟩
    · exact vp_mem.mp hP' q h
    · have h0 := vp_mem.mp hP q h
      refine h0.kept (hk q.1 h0.lt (fun hz => ?_))
      rcases va_A_get hz with ⟨p, hp9, e⟩ | hz
      · exact hne p hp9 e
      · exact absurd h0.lt (by omega)
  · have e := List.pairwise_map (f := fun q : Nat × va_E => q.1) (R := fun a b : Nat => a ≠ b) (l := W)
    have e' := List.pairwise_map (f := fun q : Nat × va_E => q.1) (R := fun a b : Nat => a ≠ b) (l := W')
    exact e'.mp (by rw [ha]; exact e.mpr hp)
  · have h1 : q.1 ∈ W.map (fun q => q.1) := by rw [← ha]; exact List.mem_map.mpr ⟨q, hq, rfl⟩
    obtain ⟨p, hp9, ep⟩ := List.mem_map.mp h1
    rw [← ep]
    exact hA p hp9
theorem vp_perm {D : va_G} {cl : List vw_C} {W W' : va_W} {H : Heap} (hp : W.Perm W') (h : va_P D cl W H) : va_P D cl W' H := vp_mem.mpr fun q hq => vp_mem.mp h q (hp.mem_iff.mpr hq)
theorem vd_perm {A : Nat → Prop} {W W' : va_W} (hp : W.Perm W') (h : va_D A W) : va_D A W' := by
  obtain ⟨h1, h2⟩ := vd_pw.mp h
  exact vd_pw.mpr ⟨(hp.pairwise_iff (fun e => Ne.symm e)).mp h1, fun q hq => h2 q (hp.mem_iff.mpr hq)⟩
section UCA
variable {l : Launch} {D : va_G} {cI cJ cO : ClassId} {ah qk sz mc ms : Nat} {z : AZ} {g : SG} {y : MethodName} {ws : List Cond} {rm : Room} {av : List Value}
theorem tP_pw {W X : va_W} {st : State} (hs : ∀ p ∈ X, p ∈ W) (h : tP D (ty3 cI cJ cO) (some ah) W sz st) : pw D (ty3 cI cJ cO) (some ah) X st ∧ px (fun _ => False) st st.heap := by
  obtain ⟨⟨hsz, hZ, hP, hK, hD⟩, hT⟩ := h
  exact ⟨⟨pz_at hZ (va_S.rf (A := va_A W sz)) (State.WarmedH.refl st) (Or.inr rfl) (fun _ f => f.elim), vp_mem.mpr (fun q hq => vp_mem.mp hP q (hs q hq)), hK⟩, px_at hT (va_S.rf (A := va_A W sz)) (State.WarmedH.refl st) (fun _ f => f.elim)⟩
theorem tP_pwB {st : State} (h : tP D (ty3 cI cJ cO) (some ah) (DW cI cO qk z g) sz st) : pT (pwB D (ty3 cI cJ cO) (some ah) (DK cI cO qk z g) g.2.2.2.2.1 (FM cI z g)) st :=
  ⟨⟨(tP_pw (fun p hp => List.mem_append_left _ hp) h).1, fun i hi => bl_fam h.1.2.2.1 i hi⟩, (tP_pw (fun p hp => List.mem_append_left _ hp) h).2⟩
theorem uq_rd {α : Type} {mk : α → Value} {r : α ⊕ String} {v : α} {a : Array Value} {st t : State} {o : Outcome} (hp : tP D (ty3 cI cJ cO) (some ah) (DW cI cO qk z g) sz st) (er : r = .inl v) (eo : o = .returned (some (mk v))) (hh : t.heap = st.heap) : UQ D cI cO qk (va_A (DW cI cO qk z g) sz) mk (rw1 g r) a st o t :=
  ⟨(v, g), by rw [er]; rfl, eo, z, by rw [hh]; exact hp.1.2.2.1, hp.1.2.2.2.2.self, ⟨by rw [hh]; exact Nat.le_refl _, fun q _ _ => by rw [hh]⟩⟩
theorem xt_rd {α : Type} {r : α ⊕ String} {E : String} {st t : State} (h : XT r E st t) : XT (rw1 g r) E st t := ⟨by rw [h.1]; rfl, h.2⟩
theorem uc_Bi {r : Int32 ⊕ String} (hM : vx_Met l y ws rm (va_Pc av (pT (pwB D (ty3 cI cJ cO) (some ah) (DK cI cO qk z g) g.2.2.2.2.1 (FM cI z g)))) (QTi r) (XT r) mc ms (fun _ => False)) : vx_Met l y ws rm (va_Pc av (tP D (ty3 cI cJ cO) (some ah) (DW cI cO qk z g) sz)) (UQ D cI cO qk (va_A (DW cI cO qk z g) sz) Value.int (rw1 g r)) (XT (rw1 g r)) mc ms (va_A (DW cI cO qk z g) sz) :=
  vx_mono hM (fun _ _ h => ⟨h.1, tP_pwB h.2⟩) (fun _ h => h.elim) (fun _ _ _ _ hp ⟨_, eo, er, hh⟩ => uq_rd hp.2 er eo hh) (fun _ _ _ _ _ hx => xt_rd hx)
theorem uc_Bl {r : Int64 ⊕ String} (hM : vx_Met l y ws rm (va_Pc av (pT (pwB D (ty3 cI cJ cO) (some ah) (DK cI cO qk z g) g.2.2.2.2.1 (FM cI z g)))) (QTl r) (XT r) mc ms (fun _ => False)) : vx_Met l y ws rm (va_Pc av (tP D (ty3 cI cJ cO) (some ah) (DW cI cO qk z g) sz)) (UQ D cI cO qk (va_A (DW cI cO qk z g) sz) Value.long (rw1 g r)) (XT (rw1 g r)) mc ms (va_A (DW cI cO qk z g) sz) :=
  vx_mono hM (fun _ _ h => ⟨h.1, tP_pwB h.2⟩) (fun _ h => h.elim) (fun _ _ _ _ hp ⟨_, eo, er, hh⟩ => uq_rd hp.2 er eo hh) (fun _ _ _ _ _ hx => xt_rd hx)
theorem uc_Si {r : Int32 ⊕ String} (hM : vx_Met l y ws rm (va_Pc av (pT (pw D (ty3 cI cJ cO) (some ah) (DK cI cO qk z g)))) (QTi r) (XT r) mc ms (fun _ => False)) : vx_Met l y ws rm (va_Pc av (tP D (ty3 cI cJ cO) (some ah) (DW cI cO qk z g) sz)) (UQ D cI cO qk (va_A (DW cI cO qk z g) sz) Value.int (rw1 g r)) (XT (rw1 g r)) mc ms (va_A (DW cI cO qk z g) sz) :=
  vx_mono hM (fun _ _ h => ⟨h.1, tP_pw (fun p hp => List.mem_append_left _ hp) h.2⟩) (fun _ h => h.elim) (fun _ _ _ _ hp ⟨_, eo, er, hh⟩ => uq_rd hp.2 er eo hh) (fun _ _ _ _ _ hx => xt_rd hx)
/-- a part of the desk's cells alone, with room as at the whole -/
theorem tP_sub {W X : va_W} {st : State} (hs : ∀ p ∈ X, p ∈ W) (hn : X.Pairwise (fun p q => p.1 ≠ q.1)) (h : tP D (ty3 cI cJ cO) (some ah) W sz st) : tP D (ty3 cI cJ cO) (some ah) X sz st := by
  obtain ⟨⟨hsz, hZ, hP, hK, hD⟩, hT⟩ := h
  refine ⟨⟨hsz, pz_at hZ (va_S.rf (A := va_A W sz)) (State.WarmedH.refl st) (Or.inr rfl) (fun _ f => va_A_mem hs f), vp_mem.mpr (fun q hq => vp_mem.mp hP q (hs q hq)), hK, vd_pw.mpr ⟨hn, fun _ _ => trivial⟩⟩, px_at hT (va_S.rf (A := va_A W sz)) (State.WarmedH.refl st) (fun _ f => va_A_mem hs f)⟩
theorem dw_pw {A : Nat → Prop} (hD : va_D A (DW cI cO qk z g)) : (DK cI cO qk z g).Pairwise (fun p q => p.1 ≠ q.1) := (List.pairwise_append.mp (vd_pw.mp hD).1).1
/-- the desk alone is changed, its bonds stand -/
theorem uq_S {α β : Type} {mk : α → Value} {r : β ⊕ String} {fv : β → α} {fk : β → va_W} {fg : β → SG} {a : Array Value} {st t : State} {o : Outcome} (hfk : ∀ u, fk u = DK cI cO qk z (fg u)) (hb : ∀ u, bl (fg u).2.2.2.2.1 (FM cI z (fg u)) = bl g.2.2.2.2.1 (FM cI z g)) (hp : tP D (ty3 cI cJ cO) (some ah) (DW cI cO qk z g) sz st) (u : β) (er : r = .inl u) (eo : o = .returned (some (mk (fv u)))) (hP1 : va_P D vwCl (fk u) t.heap) (hD1 : va_D (va_A (DK cI cO qk z g) sz) (fk u)) (hF : va_F (va_A (DK cI cO qk z g) sz) st t) : UQ D cI cO qk (va_A (DW cI cO qk z g) sz) mk (rw2 r fv fg) a st o t := by
  obtain ⟨⟨hsz, hZ, hP, hK, hD⟩, hT⟩ := hp
  subst hsz
  rw [hfk] at hP1 hD1
  obtain ⟨j1, j2⟩ := wj (X := DK cI cO qk z g) (Y := bl g.2.2.2.2.1 (FM cI z g)) hP (hD.self (sz := st.heap.size)) (fun q h => Or.inr h) hP1 hD1 hF.2
  rw [← hb u] at j1 j2
  exact ⟨(fv u, fg u), by rw [er]; rfl, eo, z, j1, j2, va_F_mem (fun p hp => List.mem_append_left _ hp) hF⟩
theorem xt_rd2 {α β : Type} {r : β ⊕ String} {fv : β → α} {fg : β → SG} {E : String} {st t : State} (h : XT r E st t) : XT (rw2 r fv fg) E st t := ⟨by rw [h.1]; rfl, h.2⟩
theorem uc_TSi {β : Type} {r : β ⊕ String} {fv : β → Int32} {fk : β → va_W} (fg : β → SG) (hfk : ∀ u, fk u = DK cI cO qk z (fg u)) (hb : ∀ u, bl (fg u).2.2.2.2.1 (FM cI z (fg u)) = bl g.2.2.2.2.1 (FM cI z g)) (hM : vx_Met l y ws rm (va_Pc av (tP D (ty3 cI cJ cO) (some ah) (DK cI cO qk z g) sz)) (tQi D (va_A (DK cI cO qk z g) sz) r fv fk) (XT r) mc ms (va_A (DK cI cO qk z g) sz)) : vx_Met l y ws rm (va_Pc av (tP D (ty3 cI cJ cO) (some ah) (DW cI cO qk z g) sz)) (UQ D cI cO qk (va_A (DW cI cO qk z g) sz) Value.int (rw2 r fv fg)) (XT (rw2 r fv fg)) mc ms (va_A (DW cI cO qk z g) sz) :=
  vx_mono hM (fun _ _ h => ⟨h.1, tP_sub (fun p hp => List.mem_append_left _ hp) (dw_pw h.2.1.2.2.2.2) h.2⟩) (fun _ h => va_A_app h) (fun _ _ _ _ hp ⟨u, er, eo, h1, h2, h3⟩ => uq_S hfk hb hp.2 u er eo h1 h2 h3) (fun _ _ _ _ _ hx => xt_rd2 hx)
end UCA
