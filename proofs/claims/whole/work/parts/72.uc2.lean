/-! the public methods of the class over the whole desk: one form for all -/
theorem ca2 {α β γ : Type} (f : α → β → γ) {a a' : α} {b b' : β} (h : a = a') (k : b = b') : f a b = f a' b' := by subst h; subst k; rfl
theorem bl_succ (nb : Nat) (f : Nat → va_W) : bl (nb + 1) f = bl nb f ++ f nb := by simp [bl, List.range_succ, List.flatMap_append]
theorem bl_congr {f f' : Nat → va_W} : ∀ nb : Nat, (∀ j, j < nb → f j = f' j) → bl nb f = bl nb f'
  | 0, _ => rfl
  | n + 1, h => by rw [bl_succ, bl_succ, bl_congr n (fun j hj => h j (Nat.lt_succ_of_lt hj)), h n (Nat.lt_succ_self n)]
section UCB
variable {l : Launch} {D : va_G} {cI cJ cO : ClassId} {ah qk sz mc ms : Nat} {z : AZ} {g : SG} {y : MethodName} {ws : List Cond} {rm : Room} {av : List Value}
theorem xk_sub {i : Nat} (hi : i < g.2.2.2.2.1) : ∀ p ∈ DK cI cO qk z g ++ FM cI z g i, p ∈ DW cI cO qk z g := fun p hp => by
  rcases List.mem_append.mp hp with h | h
  · exact List.mem_append_left _ h
  · exact List.mem_append_right _ (bl_in hi h)
theorem xk_pw {A : Nat → Prop} {i : Nat} (hi : i < g.2.2.2.2.1) (hD : va_D A (DW cI cO qk z g)) : (DK cI cO qk z g ++ FM cI z g i).Pairwise (fun p q => p.1 ≠ q.1) := by
  obtain ⟨h1, h2, h3⟩ := List.pairwise_append.mp (vd_pw.mp hD).1
  exact List.pairwise_append.mpr ⟨h1, (bl_pw h2 hi).1, fun a ha b hb => h3 a ha b (bl_in hi hb)⟩
/-- the desk and one bond are changed -/
theorem uq_B {α β : Type} {mk : α → Value} {r : β ⊕ String} {fv : β → α} {fk : β → va_W} {fg : β → SG} {i : Nat} {a : Array Value} {st t : State} {o : Outcome} (hi : i < g.2.2.2.2.1) (hfk : ∀ u, fk u = DK cI cO qk z (fg u) ++ FM cI z (fg u) i) (hnb : ∀ u, (fg u).2.2.2.2.1 = g.2.2.2.2.1) (hbo : ∀ u j, j ≠ i → FM cI z (fg u) j = FM cI z g j) (hp : tP D (ty3 cI cJ cO) (some ah) (DW cI cO qk z g) sz st) (u : β) (er : r = .inl u) (eo : o = .returned (some (mk (fv u)))) (hP1 : va_P D vwCl (fk u) t.heap) (hF : va_F (va_A (DK cI cO qk z g ++ FM cI z g i) sz) st t) : UQ D cI cO qk (va_A (DW cI cO qk z g) sz) mk (rw2 r fv fg) a st o t := by
  obtain ⟨⟨hsz, hZ, hP, hK, hD⟩, hT⟩ := hp
  subst hsz
  rw [hfk] at hP1
  obtain ⟨h1, h2, h3⟩ := List.pairwise_append.mp (vd_pw.mp hD).1
  obtain ⟨j1, j2⟩ := wj2 (X := DK cI cO qk z g ++ FM cI z g i) (W := DW cI cO qk z g) (W' := DW cI cO qk z (fg u)) hP (hD.self (sz := st.heap.size)) hP1 hF.2 (fun q hq => by
    rcases List.mem_append.mp hq with h | h
    · exact Or.inl (List.mem_append_left _ h)
    · obtain ⟨j, hj, hq9⟩ := List.mem_flatMap.mp h
      have hj := List.mem_range.mp hj
      by_cases c : j = i
      · subst c
        exact Or.inl (List.mem_append_right _ hq9)
      · rw [hbo u j c] at hq9
        rw [hnb] at hj
        refine Or.inr ⟨List.mem_append_right _ (bl_in hj hq9), fun p hp9 => ?_⟩
        rcases List.mem_append.mp hp9 with k | k
        · exact h3 p k q (bl_in hj hq9)
        · exact (bl_pw h2 hi).2 j hj c p k q hq9) (by
    refine List.map_append.trans (Eq.trans (ca2 (fun a b : List Nat => a ++ b) (rfl : (DK cI cO qk z (fg u)).map (fun q => q.1) = (DK cI cO qk z g).map (fun q => q.1)) ?_) List.map_append.symm)
    simp only [bl, List.map_flatMap, hnb]
    rfl)
  exact ⟨(fv u, fg u), by rw [er]; rfl, eo, z, j1, j2, va_F_mem (xk_sub hi) hF⟩
theorem uc_TBi {β : Type} {r : β ⊕ String} {fv : β → Int32} {fk : β → va_W} (i : Nat) (fg : β → SG) (hi : i < g.2.2.2.2.1) (hfk : ∀ u, fk u = DK cI cO qk z (fg u) ++ FM cI z (fg u) i) (hnb : ∀ u, (fg u).2.2.2.2.1 = g.2.2.2.2.1) (hbo : ∀ u j, j ≠ i → FM cI z (fg u) j = FM cI z g j) (hM : vx_Met l y ws rm (va_Pc av (tP D (ty3 cI cJ cO) (some ah) (DK cI cO qk z g ++ FM cI z g i) sz)) (tQi D (va_A (DK cI cO qk z g ++ FM cI z g i) sz) r fv fk) (XT r) mc ms (va_A (DK cI cO qk z g ++ FM cI z g i) sz)) : vx_Met l y ws rm (va_Pc av (tP D (ty3 cI cJ cO) (some ah) (DW cI cO qk z g) sz)) (UQ D cI cO qk (va_A (DW cI cO qk z g) sz) Value.int (rw2 r fv fg)) (XT (rw2 r fv fg)) mc ms (va_A (DW cI cO qk z g) sz) :=
  vx_mono hM (fun _ _ h => ⟨h.1, tP_sub (xk_sub hi) (xk_pw hi h.2.1.2.2.2.2) h.2⟩) (fun _ h => va_A_mem (xk_sub hi) h) (fun _ _ _ _ hp ⟨u, er, eo, h1, _, h3⟩ => uq_B hi hfk hnb hbo hp.2 u er eo h1 h3) (fun _ _ _ _ _ hx => xt_rd2 hx)
theorem uc_TBl {β : Type} {r : β ⊕ String} {fv : β → Int64} {fk : β → va_W} (i : Nat) (fg : β → SG) (hi : i < g.2.2.2.2.1) (hfk : ∀ u, fk u = DK cI cO qk z (fg u) ++ FM cI z (fg u) i) (hnb : ∀ u, (fg u).2.2.2.2.1 = g.2.2.2.2.1) (hbo : ∀ u j, j ≠ i → FM cI z (fg u) j = FM cI z g j) (hM : vx_Met l y ws rm (va_Pc av (tP D (ty3 cI cJ cO) (some ah) (DK cI cO qk z g ++ FM cI z g i) sz)) (tQl D (va_A (DK cI cO qk z g ++ FM cI z g i) sz) r fv fk) (XT r) mc ms (va_A (DK cI cO qk z g ++ FM cI z g i) sz)) : vx_Met l y ws rm (va_Pc av (tP D (ty3 cI cJ cO) (some ah) (DW cI cO qk z g) sz)) (UQ D cI cO qk (va_A (DW cI cO qk z g) sz) Value.long (rw2 r fv fg)) (XT (rw2 r fv fg)) mc ms (va_A (DW cI cO qk z g) sz) :=
  vx_mono hM (fun _ _ h => ⟨h.1, tP_sub (xk_sub hi) (xk_pw hi h.2.1.2.2.2.2) h.2⟩) (fun _ h => va_A_mem (xk_sub hi) h) (fun _ _ _ _ hp ⟨u, er, eo, h1, _, h3⟩ => uq_B hi hfk hnb hbo hp.2 u er eo h1 h3) (fun _ _ _ _ _ hx => xt_rd2 hx)
/-- a number that no bond has: it throws, and nothing else -/
theorem uc_bad {α : Type} {mk : α → Value} {R : (α × SG) ⊕ String} {E : String} (hR : R = .inr E) (hM : vx_Met l y ws rm (va_Pc av (tP D (ty3 cI cJ cO) (some ah) (DK cI cO qk z g) sz)) (fun _ _ _ _ => False) (XT (α := Unit) (.inr E)) mc ms (va_A (DK cI cO qk z g) sz)) : vx_Met l y ws rm (va_Pc av (tP D (ty3 cI cJ cO) (some ah) (DW cI cO qk z g) sz)) (UQ D cI cO qk (va_A (DW cI cO qk z g) sz) mk R) (XT R) mc ms (va_A (DW cI cO qk z g) sz) :=
  vx_mono hM (fun _ _ h => ⟨h.1, tP_sub (fun p hp => List.mem_append_left _ hp) (dw_pw h.2.1.2.2.2.2) h.2⟩) (fun _ h => va_A_app h) (fun _ _ _ _ _ h => h.elim) (fun _ _ E' _ _ hx => ⟨by
    have e : E = E' := by have := hx.1; cases this; rfl
    rw [hR, e], hx.2⟩)
theorem uc_TLl {β : Type} {r : β ⊕ String} {fv : β → Int64} {fk : β → va_W} (fg : β → SG) (hfk : ∀ u, fk u = DW cI cO qk z (fg u)) (hM : vx_Met l y ws rm (va_Pc av (tP D (ty3 cI cJ cO) (some ah) (DW cI cO qk z g) sz)) (tQl D (va_A (DW cI cO qk z g) sz) r fv fk) (XT r) mc ms (va_A (DW cI cO qk z g) sz)) : vx_Met l y ws rm (va_Pc av (tP D (ty3 cI cJ cO) (some ah) (DW cI cO qk z g) sz)) (UQ D cI cO qk (va_A (DW cI cO qk z g) sz) Value.long (rw2 r fv fg)) (XT (rw2 r fv fg)) mc ms (va_A (DW cI cO qk z g) sz) :=
  vx_mono hM (fun _ _ h => h) (fun _ h => h) (fun _ _ _ _ _ ⟨u, er, eo, h1, h2, h3⟩ => ⟨(fv u, fg u), by rw [er]; rfl, eo, z, by rw [← hfk]; exact h1, by rw [← hfk]; exact h2, h3⟩) (fun _ _ _ _ _ hx => xt_rd2 hx)
/-- a bond is added -/
abbrev gAdd (g : SG) (K' : Nat → Int32) (S' : Nat → Int32) (T' : Nat → Int64) (n' : Nat) (d' : Nat → Int32) (B' : Nat → Int32) : SG := (K', g.2.1, g.2.2.1, g.2.2.2.1, g.2.2.2.2.1 + 1, va_up g.2.2.2.2.2.1 g.2.2.2.2.1 B', va_up g.2.2.2.2.2.2.1 g.2.2.2.2.1 S', va_up g.2.2.2.2.2.2.2.1 g.2.2.2.2.1 T', va_up g.2.2.2.2.2.2.2.2.1 g.2.2.2.2.1 n', va_up g.2.2.2.2.2.2.2.2.2 g.2.2.2.2.1 d')
abbrev zAdd (z : AZ) (nb : Nat) (y : Nat × Nat × Nat) : AZ := (z.1, z.2.1, z.2.2.1, va_up z.2.2.2.1 nb y.1, va_up z.2.2.2.2.1 nb y.2.1, va_up z.2.2.2.2.2 nb y.2.2)
theorem add_raw (nb : Nat) (ab : Nat → Nat) (q : Nat) : va_up (fun i => if i < nb then some (ab i) else none) nb (some q) = fun i => if i < nb + 1 then some (va_up ab nb q i) else none := by
  funext i
  unfold va_up
  by_cases c : i = nb
  · subst c
    rw [if_pos rfl, if_pos (Nat.lt_succ_self _), if_pos rfl]
  · rw [if_neg c, if_neg c]
    show (if i < nb then some (ab i) else none) = _
    by_cases d : i < nb
    · rw [if_pos d, if_pos (Nat.lt_succ_of_lt d)]
    · rw [if_neg d, if_neg (by omega)]
theorem add_perm (K' : Nat → Int32) (S' : Nat → Int32) (T' : Nat → Int64) (n' : Nat) (d' : Nat → Int32) (B' : Nat → Int32) (y : Nat × Nat × Nat) : ([eK qk z.1 z.2.1 z.2.2.1 K' g.2.1, eG cI z.1 g.2.2.1, (z.2.1, .inl (cO, 10, .inr (.inr (.inr (.inr (va_up (fun i => if i < g.2.2.2.2.1 then some (z.2.2.2.1 i) else none) g.2.2.2.2.1 (some y.1))))))), eL z.2.2.1 g.2.2.2.1, eB y.1 y.2.1 B', eS y.2.1 y.2.2 S' T', eD cI y.2.2 n' d'] ++ bl g.2.2.2.2.1 (FM cI z g)).Perm (DW cI cO qk (zAdd z g.2.2.2.2.1 y) (gAdd g K' S' T' n' d' B')) := by
  rw [add_raw]
  have h1 : bl (g.2.2.2.2.1 + 1) (FM cI (zAdd z g.2.2.2.2.1 y) (gAdd g K' S' T' n' d' B')) = bl g.2.2.2.2.1 (FM cI z g) ++ [eD cI y.2.2 n' d', eS y.2.1 y.2.2 S' T', eB y.1 y.2.1 B'] := by
    rw [bl_succ]
    refine ca2 (fun a b : va_W => a ++ b) (bl_congr _ (fun j hj => ?_)) ?_
    · have c : j ≠ g.2.2.2.2.1 := Nat.ne_of_lt hj
      simp only [FM, fam, va_up_ne _ _ c]
    · simp only [FM, fam, va_up_self]
  show ((DK cI cO qk (zAdd z g.2.2.2.2.1 y) (gAdd g K' S' T' n' d' B') ++ [eB y.1 y.2.1 B', eS y.2.1 y.2.2 S' T', eD cI y.2.2 n' d']) ++ bl g.2.2.2.2.1 (FM cI z g)).Perm (DK cI cO qk (zAdd z g.2.2.2.2.1 y) (gAdd g K' S' T' n' d' B') ++ bl (g.2.2.2.2.1 + 1) (FM cI (zAdd z g.2.2.2.2.1 y) (gAdd g K' S' T' n' d' B')))
  rw [h1, List.append_assoc]
  refine List.Perm.append_left _ (List.perm_append_comm.trans (List.Perm.append_left _ ?_))
  exact List.reverse_perm [eD cI y.2.2 n' d', eS y.2.1 y.2.2 S' T', eB y.1 y.2.1 B']
theorem uc_TA {β : Type} {r : β ⊕ String} {fv : β → Int32} {fk : β → Nat × Nat × Nat → va_W} (fg : β → SG)  (hfk : ∀ u y, (fk u y ++ bl g.2.2.2.2.1 (FM cI z g)).Perm (DW cI cO qk (zAdd z g.2.2.2.2.1 y) (fg u))) (hM : vx_Met l y ws rm (va_Pc av (tP D (ty3 cI cJ cO) (some ah) (DK cI cO qk z g) sz)) (tQa D (va_A (DK cI cO qk z g) sz) r fv fk) (XT r) mc ms (va_A (DK cI cO qk z g) sz)) : vx_Met l y ws rm (va_Pc av (tP D (ty3 cI cJ cO) (some ah) (DW cI cO qk z g) sz)) (UQ D cI cO qk (va_A (DW cI cO qk z g) sz) Value.int (rw2 r fv fg)) (XT (rw2 r fv fg)) mc ms (va_A (DW cI cO qk z g) sz) :=
  vx_mono hM (fun _ _ h => ⟨h.1, tP_sub (fun p hp => List.mem_append_left _ hp) (dw_pw h.2.1.2.2.2.2) h.2⟩) (fun _ h => va_A_app h) (fun a st o t hp ⟨u, er, eo, w, h1, h2, h3⟩ => by
    obtain ⟨-, ⟨hsz, hZ, hP, hK, hD⟩, hT⟩ := hp
    subst hsz
    obtain ⟨j1, j2⟩ := wj (X := DK cI cO qk z g) (Y := bl g.2.2.2.2.1 (FM cI z g)) hP (hD.self (sz := st.heap.size)) (fun q h => Or.inr h) h1 h2 h3.2
    exact ⟨(fv u, fg u), by rw [er]; rfl, eo, _, vp_perm (hfk u w) j1, vd_perm (hfk u w) j2, va_F_mem (fun p hp => List.mem_append_left _ hp) h3⟩) (fun _ _ _ _ _ hx => xt_rd2 hx)
end UCB
