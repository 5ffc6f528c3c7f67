/-! all bonds behind a desk -/
theorem eq_X4_bondNumbered {nb : Nat} {a0 : Int32} {rr : Nat ⊕ String} {w : Nat} (h : f_X4_bondNumbered nb a0 = some rr) (e : rr = .inl w) : w = a0.toNatClampNeg := by
  subst e
  unfold f_X4_bondNumbered gd at h
  repeat' split at h
  all_goals first | (cases h; done) | (cases h; rfl)
def tQa {β : Type} (D : va_G) (A : Nat → Prop) (r : β ⊕ String) (fv : β → Int32) (fw : β → Nat × Nat × Nat → va_W) : Array Value → State → Outcome → State → Prop := fun _ st o t => ∃ u : β, r = .inl u ∧ o = .returned (some (.int (fv u))) ∧ ∃ z : Nat × Nat × Nat, va_P D vwCl (fw u z) t.heap ∧ va_D A (fw u z) ∧ va_F A st t
theorem va_A_of {A0 : Nat → Prop} {ws : va_W} {H0 H : Heap} {locs : List Loc} (hD : va_D A0 ws) (hS : va_S A0 H0 H locs) (hA : ∀ q, H0.size ≤ q → A0 q) : ∀ q, va_A ws H.size q → A0 q := by
  intro q h
  rcases h with ⟨k, e, h⟩ | h
  · exact hD.2 k (q, e) h
  · exact hA q (Nat.le_trans hS.1 h)
theorem vp_mem {D : va_G} {cl : List vw_C} {ws : va_W} {H : Heap} : va_P D cl ws H ↔ ∀ q ∈ ws, va_at D cl q H := by
  constructor
  · intro h q hq
    obtain ⟨k, hk⟩ := List.getElem?_of_mem hq
    exact h k q hk
  · exact fun h k q hk => h q (List.mem_of_getElem? hk)
theorem vd_pw {A : Nat → Prop} {ws : va_W} : va_D A ws ↔ ws.Pairwise (fun p q => p.1 ≠ q.1) ∧ ∀ q ∈ ws, A q.1 := by
  constructor
  · intro h
    refine ⟨List.pairwise_iff_getElem.mpr (fun i j hi hj hij e => ?_), fun q hq => ?_⟩
    · have := h.1 i j _ _ (List.getElem?_eq_getElem hi) (List.getElem?_eq_getElem hj) e
      omega
    · obtain ⟨k, hk⟩ := List.getElem?_of_mem hq
      exact h.2 k q hk
  · intro h
    refine ⟨fun i j p q hp hq e => ?_, fun k q hk => h.2 q (List.mem_of_getElem? hk)⟩
    have hpw := List.pairwise_iff_getElem.mp h.1
    obtain ⟨hi, ep⟩ := List.getElem?_eq_some_iff.mp hp
    obtain ⟨hj, eq⟩ := List.getElem?_eq_some_iff.mp hq
    rcases Nat.lt_trichotomy i j with c | c | c
    · exact absurd (by rw [ep, eq]; exact e) (hpw i j hi hj c)
    · exact c
    · exact absurd (by rw [ep, eq]; exact e.symm) (hpw j i hj hi c)
def bl (nb : Nat) (f : Nat → va_W) : va_W := (List.range nb).flatMap f
theorem bl_in {nb i : Nat} {f : Nat → va_W} {q : Nat × va_E} (hi : i < nb) (hq : q ∈ f i) : q ∈ bl nb f := List.mem_flatMap.mpr ⟨i, List.mem_range.mpr hi, hq⟩
theorem bl_fam {D : va_G} {cl : List vw_C} {X : va_W} {nb : Nat} {f : Nat → va_W} {H : Heap} (hP : va_P D cl (X ++ bl nb f) H) (i : Nat) (hi : i < nb) : va_P D cl (f i) H := vp_mem.mpr fun q hq => vp_mem.mp hP q (List.mem_append_right _ (bl_in hi hq))
theorem bl_pw {nb i : Nat} {f : Nat → va_W} (h : (bl nb f).Pairwise (fun p q => p.1 ≠ q.1)) (hi : i < nb) : (f i).Pairwise (fun p q => p.1 ≠ q.1) ∧ ∀ j, j < nb → j ≠ i → ∀ p ∈ f i, ∀ q ∈ f j, p.1 ≠ q.1 := by
  obtain ⟨h1, h2⟩ := List.pairwise_flatMap.mp h
  refine ⟨h1 i (List.mem_range.mpr hi), fun j hj hne p hp q hq => ?_⟩
  have h3 := List.pairwise_iff_getElem.mp h2
  rcases Nat.lt_or_gt_of_ne hne with c | c
  · have := h3 j i (by simpa using hj) (by simpa using hi) c
    simp only [List.getElem_range] at this
    exact (this q hq p hp).symm
  · have := h3 i j (by simpa using hi) (by simpa using hj) c
    simp only [List.getElem_range] at this
    exact this p hp q hq
theorem bl_cutP {D : va_G} {cl : List vw_C} {X : va_W} {d : Nat × va_E} {nb i : Nat} {f : Nat → va_W} {H : Heap} (hP : va_P D cl ((X ++ [d]) ++ bl nb f) H) (hi : i < nb) : va_P D cl (f i ++ [d]) H := vp_mem.mpr fun q hq => by
  rcases List.mem_append.mp hq with h | h
  · exact vp_mem.mp hP q (List.mem_append_right _ (bl_in hi h))
  · exact vp_mem.mp hP q (List.mem_append_left _ (List.mem_append_right _ h))
theorem bl_cutD {A : Nat → Prop} {X : va_W} {d : Nat × va_E} {nb i : Nat} {f : Nat → va_W} (hD : va_D A ((X ++ [d]) ++ bl nb f)) (hi : i < nb) : va_D A (f i ++ [d]) := by
  obtain ⟨hp, hA⟩ := vd_pw.mp hD
  obtain ⟨h1, h2, h3⟩ := List.pairwise_append.mp hp
  refine vd_pw.mpr ⟨List.pairwise_append.mpr ⟨(bl_pw h2 hi).1, List.pairwise_singleton _ _, fun a ha b hb => ?_⟩, fun q hq => ?_⟩
  · exact (h3 b (List.mem_append_right _ hb) a (bl_in hi ha)).symm
  · rcases List.mem_append.mp hq with h | h
    · exact hA q (List.mem_append_right _ (bl_in hi h))
    · exact hA q (List.mem_append_left _ (List.mem_append_right _ h))
theorem bl_free {A0 : Nat → Prop} {X : va_W} {d : Nat × va_E} {nb i : Nat} {f : Nat → va_W} {H0 H : Heap} {locs : List Loc} (hD : va_D A0 ((X ++ [d]) ++ bl nb f)) (hS : va_S A0 H0 H locs) (hA : ∀ q, H0.size ≤ q → A0 q) (hi : i < nb) : ∀ q, va_A (f i ++ [d]) H.size q → A0 q := va_A_of (bl_cutD hD hi) hS hA
theorem bl_join {D : va_G} {cl : List vw_C} {A : Nat → Prop} {X w1 : va_W} {d e2 : Nat × va_E} {nb i : Nat} {f f2 : Nat → va_W} {H H1 : Heap} (hP : va_P D cl ((X ++ [d]) ++ bl nb f) H) (hD : va_D A ((X ++ [d]) ++ bl nb f)) (hi : i < nb) (hk : ∀ q : Nat, q < H.size → ¬ va_A (f i ++ [d]) H.size q → H1[q]? = H[q]?) (hP1 : va_P D cl w1 H1) (hd : e2.1 = d.1) (hf : ∀ j, j ≠ i → f2 j = f j) (ha : (f2 i).map (fun q => q.1) = (f i).map (fun q => q.1)) (he : f2 i ++ [e2] = w1) : va_P D cl ((X ++ [e2]) ++ bl nb f2) H1 ∧ va_D A ((X ++ [e2]) ++ bl nb f2) := by
  subst he
  obtain ⟨hp, hA⟩ := vd_pw.mp hD
  obtain ⟨h1, h2, h3⟩ := List.pairwise_append.mp hp
  obtain ⟨h11, h12, h13⟩ := List.pairwise_append.mp h1
  have hb := bl_pw h2 hi
  have keep : ∀ q ∈ (X ++ [d]) ++ bl nb f, (∀ p ∈ f i ++ [d], p.1 ≠ q.1) → va_at D cl q H1 := by
    intro q hq hne
    have ha0 := vp_mem.mp hP q hq
    refine ha0.kept (hk q.1 ha0.lt (fun hz => ?_))
    rcases hz with ⟨k, e, h⟩ | h
    · exact hne _ (List.mem_of_getElem? h) rfl
    · exact absurd ha0.lt (by omega)
  have ad : ∀ j, (f2 j).map (fun q => q.1) = (f j).map (fun q => q.1) := by
    intro j
    by_cases c : j = i
    · rw [c]; exact ha
    · rw [hf j c]
  have adr : ((X ++ [e2]) ++ bl nb f2).map (fun q => q.1) = ((X ++ [d]) ++ bl nb f).map (fun q => q.1) := by
    simp only [List.map_append, List.map_cons, List.map_nil, hd, bl, List.map_flatMap]
    congr 1
    exact congrArg (fun g => List.flatMap g (List.range nb)) (funext ad)
  refine ⟨vp_mem.mpr fun q hq => ?_, ?_⟩
  · rcases List.mem_append.mp hq with h | h
    · rcases List.mem_append.mp h with h | h
      · refine keep q (List.mem_append_left _ (List.mem_append_left _ h)) (fun p hp9 => ?_)
        rcases List.mem_append.mp hp9 with g | g
        · exact (h3 q (List.mem_append_left _ h) p (bl_in hi g)).symm
        · exact (h13 q h p g).symm
      · exact vp_mem.mp hP1 q (List.mem_append_right _ h)
    · obtain ⟨j, hj, hq9⟩ := List.mem_flatMap.mp h
      have hj := List.mem_range.mp hj
      by_cases c : j = i
      · subst c
        exact vp_mem.mp hP1 q (List.mem_append_left _ hq9)
      · rw [hf j c] at hq9
        refine keep q (List.mem_append_right _ (bl_in hj hq9)) (fun p hp9 => ?_)
        rcases List.mem_append.mp hp9 with g | g
        · exact hb.2 j hj c p g q hq9
        · exact h3 p (List.mem_append_right _ g) q (bl_in hj hq9)
  · refine vd_pw.mpr ⟨?_, fun q hq => ?_⟩
    · have e := List.pairwise_map (f := fun q : Nat × va_E => q.1) (R := fun a b : Nat => a ≠ b) (l := (X ++ [d]) ++ bl nb f)
      have e' := List.pairwise_map (f := fun q : Nat × va_E => q.1) (R := fun a b : Nat => a ≠ b) (l := (X ++ [e2]) ++ bl nb f2)
      exact e'.mp (by rw [adr]; exact e.mpr hp)
    · have hm : q.1 ∈ ((X ++ [d]) ++ bl nb f).map (fun q => q.1) := by rw [← adr]; exact List.mem_map.mpr ⟨q, hq, rfl⟩
      obtain ⟨p, hp9, ep⟩ := List.mem_map.mp hm
      rw [← ep]
      exact hA p hp9
def f_X5_addBond_L221 (w38 : Nat → Int32) (w40 : Nat → Int32) (K50 : Int32 → Option (Int32 × (Nat → Int32) × (Nat → Int32) × (Nat → Int32))) : Nat → Int32 → Option (Int32 × (Nat → Int32) × (Nat → Int32) × (Nat → Int32))
  | 0, _ => none
  | n52 + 1, x49 => bd (((121 * (w38 4)) + x49) + 1 : Int32) fun x53 : Int32 => gd (¬ (x53 < 0 ∨ 1210 ≤ x53.toNatClampNeg)) ((if (w38 1) < (w40 x53.toNatClampNeg) then K50 x49 else bd (x49 + 1) fun x56 : Int32 => f_X5_addBond_L221 w38 w40 K50 n52 x56))
def f_X5_addBond_L172 (x21 : Int32) (a3 : Int32) (a1 : Int32) (N : Nat) (K37 : (Nat → Int32) → (Nat → Int32) → (Nat → Int32) → Option (Int32 × (Nat → Int32) × (Nat → Int32) × (Nat → Int32))) : Nat → Int32 → (Nat → Int32) → (Nat → Int32) → (Nat → Int32) → Option (Int32 × (Nat → Int32) × (Nat → Int32) × (Nat → Int32))
  | 0, _, _, _, _ => none
  | n41 + 1, x33, w34, w35, w36 => (if x21 < x33 then K37 w34 w35 w36 else gd (¬ a3 = 0) ((f_X5_moved a1 ((12 / a3) * (x21 - x33))).bind fun v44 : Int32 => (f_X5_number N v44).bind fun v45 : Int32 => gd (¬ (((121 * (w34 4)) + x33) < 0 ∨ 1210 ≤ ((121 * (w34 4)) + x33).toNatClampNeg)) (bd (upd w36 ((121 * (w34 4)) + x33).toNatClampNeg v45) fun w47 : Nat → Int32 => bd (x33 + 1) fun x48 : Int32 => f_X5_addBond_L172 x21 a3 a1 N K37 n41 x48 w34 w35 w47)))
def f_X5_addBond_L102 (a3 : Int32) (a1 : Int32) (a0 : Int32) (K20 : Int32 → Option (Int32 × (Nat → Int32) × (Nat → Int32) × (Nat → Int32))) : Nat → Int32 → Option (Int32 × (Nat → Int32) × (Nat → Int32) × (Nat → Int32))
  | 0, _ => none
  | n22 + 1, x19 => gd (¬ a3 = 0) ((f_X5_moved a1 ((12 / a3) * x19)).bind fun v24 : Int32 => (if v24 ≤ a0 then K20 x19 else bd (x19 + 1) fun x26 : Int32 => f_X5_addBond_L102 a3 a1 a0 K20 n22 x26))
def f_X5_addBond (N : Nat) (M : Nat → Int32) (mof : Nat → Int32) (mdy : Nat → Int32) (a0 : Int32) (a1 : Int32) (a2 : Int32) (a3 : Int32) (a4 : Int32) : Option (Int32 × (Nat → Int32) × (Nat → Int32) × (Nat → Int32)) :=
  (f_X5_isDate a0).bind fun v1 : Int32 => (if v1 = 0 then (f_X5_no (va_up M 0 (0 : Int32)) 1).bind fun v3 : Int32 × (Nat → Int32) => some (v3.1, v3.2, mof, mdy) else (f_X5_isDate a1).bind fun v4 : Int32 => (if v4 = 0 then (f_X5_no (va_up M 0 (0 : Int32)) 1).bind fun v6 : Int32 × (Nat → Int32) => some (v6.1, v6.2, mof, mdy) else (if 20661101 < a1 then (f_X5_no (va_up M 0 (0 : Int32)) 1).bind fun v8 : Int32 × (Nat → Int32) => some (v8.1, v8.2, mof, mdy) else (if a1 ≤ a0 then (f_X5_no (va_up M 0 (0 : Int32)) 1).bind fun v10 : Int32 × (Nat → Int32) => some (v10.1, v10.2, mof, mdy) else (f_X5_number N a1).bind fun v11 : Int32 => (if (M 1) < v11 then (f_X5_isIn a2 0 2000).bind fun v13 : Int32 => (if v13 = 0 then (f_X5_no (va_up M 0 (0 : Int32)) 1).bind fun v15 : Int32 × (Nat → Int32) => some (v15.1, v15.2, mof, mdy) else jn (fun (_ : Unit) => (f_X5_isIn a4 0 3).bind fun v17 : Int32 => (if v17 = 0 then (f_X5_no (va_up M 0 (0 : Int32)) 1).bind fun v94 : Int32 × (Nat → Int32) => some (v94.1, v94.2, mof, mdy) else f_X5_addBond_L102 a3 a1 a0 (fun (x21 : Int32) => (if 120 < x21 then (f_X5_no (va_up M 0 (0 : Int32)) 1).bind fun v28 : Int32 × (Nat → Int32) => some (v28.1, v28.2, mof, mdy) else gd (¬ a3 = 0) ((f_X5_moved a1 ((12 / a3) * x21)).bind fun v30 : Int32 => (if 20160101 ≤ v30 then (if (M 4) = 10 then (f_X5_no (va_up M 0 (0 : Int32)) 2).bind fun v92 : Int32 × (Nat → Int32) => some (v92.1, v92.2, mof, mdy) else f_X5_addBond_L172 x21 a3 a1 N (fun (w38 : Nat → Int32) (w39 : Nat → Int32) (w40 : Nat → Int32) => f_X5_addBond_L221 w38 w40 (fun (x51 : Int32) => (f_X5_number N a0).bind fun v58 : Int32 => gd (¬ ((0 : Int32) < 0 ∨ 14 ≤ (0 : Int32).toNatClampNeg)) (bd (upd (fun _ => 0) (0 : Int32).toNatClampNeg v58) fun w60 : Nat → Int32 => (f_X5_number N a1).bind fun v61 : Int32 => gd (¬ ((1 : Int32) < 0 ∨ 14 ≤ (1 : Int32).toNatClampNeg)) (bd (upd w60 (1 : Int32).toNatClampNeg v61) fun w63 : Nat → Int32 => gd (¬ ((2 : Int32) < 0 ∨ 14 ≤ (2 : Int32).toNatClampNeg)) (bd (upd w63 (2 : Int32).toNatClampNeg a2) fun w65 : Nat → Int32 => gd (¬ ((3 : Int32) < 0 ∨ 14 ≤ (3 : Int32).toNatClampNeg)) (bd (upd w65 (3 : Int32).toNatClampNeg a3) fun w67 : Nat → Int32 => gd (¬ ((4 : Int32) < 0 ∨ 14 ≤ (4 : Int32).toNatClampNeg)) (bd (upd w67 (4 : Int32).toNatClampNeg a4) fun w69 : Nat → Int32 => gd (¬ ((5 : Int32) < 0 ∨ 14 ≤ (5 : Int32).toNatClampNeg)) (bd (upd w69 (5 : Int32).toNatClampNeg (10000 : Int32)) fun w71 : Nat → Int32 => gd (¬ ((6 : Int32) < 0 ∨ 14 ≤ (6 : Int32).toNatClampNeg)) (bd (upd w71 (6 : Int32).toNatClampNeg x21) fun w73 : Nat → Int32 => gd (¬ ((7 : Int32) < 0 ∨ 14 ≤ (7 : Int32).toNatClampNeg)) (bd (upd w73 (7 : Int32).toNatClampNeg x51) fun w75 : Nat → Int32 => gd (¬ ((8 : Int32) < 0 ∨ 14 ≤ (8 : Int32).toNatClampNeg)) (bd (upd w75 (8 : Int32).toNatClampNeg (0 : Int32)) fun w77 : Nat → Int32 => gd (¬ ((9 : Int32) < 0 ∨ 14 ≤ (9 : Int32).toNatClampNeg)) (bd (upd w77 (9 : Int32).toNatClampNeg (0 : Int32)) fun w79 : Nat → Int32 => gd (¬ ((10 : Int32) < 0 ∨ 14 ≤ (10 : Int32).toNatClampNeg)) (bd (upd w79 (10 : Int32).toNatClampNeg (0 : Int32)) fun w81 : Nat → Int32 => gd (¬ ((11 : Int32) < 0 ∨ 14 ≤ (11 : Int32).toNatClampNeg)) (bd (upd w81 (11 : Int32).toNatClampNeg (0 : Int32)) fun w83 : Nat → Int32 => gd (¬ ((12 : Int32) < 0 ∨ 14 ≤ (12 : Int32).toNatClampNeg)) (bd (upd w83 (12 : Int32).toNatClampNeg (0 : Int32)) fun w85 : Nat → Int32 => gd (¬ ((13 : Int32) < 0 ∨ 14 ≤ (13 : Int32).toNatClampNeg)) (bd (upd w85 (13 : Int32).toNatClampNeg (0 : Int32)) fun w87 : Nat → Int32 => gd (¬ (14 * (w38 4)) < 0) (gd ((14 * (w38 4)).toNatClampNeg + (14 : Int32).toNatClampNeg ≤ 140) (bd (va_cpy w87 w39 (0 : Int32).toNatClampNeg (14 * (w38 4)).toNatClampNeg (14 : Int32).toNatClampNeg) fun w90 : Nat → Int32 => bd ((w38 4) + 1 : Int32) fun x91 : Int32 => some (x91 - 1, va_up w38 4 x91, w90, w40)))))))))))))))))) N 0) N 0 (va_up M 0 (0 : Int32)) mof mdy) else (f_X5_no (va_up M 0 (0 : Int32)) 1).bind fun v93 : Int32 × (Nat → Int32) => some (v93.1, v93.2, mof, mdy))))) N 0)) fun K16 => (if a3 = 1 then K16 () else (if a3 = 2 then K16 () else (if a3 = 4 then K16 () else (if a3 = 12 then K16 () else (f_X5_no (va_up M 0 (0 : Int32)) 1).bind fun v99 : Int32 × (Nat → Int32) => some (v99.1, v99.2, mof, mdy)))))) else (f_X5_no (va_up M 0 (0 : Int32)) 1).bind fun v100 : Int32 × (Nat → Int32) => some (v100.1, v100.2, mof, mdy))))))
def f_X4_setSink (N : Nat) (nb : Nat) (bB : Nat → Nat → Int32) (bn : Nat → Nat) (bds : Nat → Nat → Int32) (a0 : Int32) (a1 : Int32) (a2 : Int32) : Option ((Int32 × (Nat → Int32)) ⊕ String) :=
  ex (f_X4_bondNumbered nb a0) fun v2 : Nat => ex (f_X4_requireDate a1) fun v4 : Unit => (if a2 < 0 then some (.inr "java/lang/IllegalArgumentException") else (if a2 ≤ 5000 then ex (f_X4_requireThere (bB a0.toNatClampNeg)) fun v8 : Unit => (f_X0_factorBehind N (va_up (va_up (bB a0.toNatClampNeg) 5 a1) 6 a2) (bn a0.toNatClampNeg) (bds a0.toNatClampNeg) ((nI (bn a0.toNatClampNeg)) - 1)).bind fun v9 : Int32 => some (.inl (v9, va_up (va_up (bB a0.toNatClampNeg) 5 a1) 6 a2)) else some (.inr "java/lang/IllegalArgumentException")))
def f_X4_setCall (N : Nat) (nb : Nat) (bB : Nat → Nat → Int32) (bn : Nat → Nat) (bds : Nat → Nat → Int32) (a0 : Int32) (a1 : Int32) (a2 : Int32) : Option ((Int32 × (Nat → Int32)) ⊕ String) :=
  ex (f_X4_bondNumbered nb a0) fun v2 : Nat => ex (f_X4_requireDate a1) fun v4 : Unit => jn (fun (_ : Unit) => ex (f_X4_requireThere (bB a0.toNatClampNeg)) fun v7 : Unit => (f_X0_firstCall N (va_up (va_up (bB a0.toNatClampNeg) 7 a1) 8 a2) (bn a0.toNatClampNeg) (bds a0.toNatClampNeg)).bind fun v8 : Int32 => some (.inl (v8, va_up (va_up (bB a0.toNatClampNeg) 7 a1) 8 a2))) fun K5 => (if a2 = 0 then K5 () else (if a2 < 8000 then some (.inr "java/lang/IllegalArgumentException") else (if a2 ≤ 15000 then K5 () else some (.inr "java/lang/IllegalArgumentException"))))
def f_X4_buy (N : Nat) (K : Nat → Int32) (kc : Int64) (hol : Nat → Int32) (nb : Nat) (bB : Nat → Nat → Int32) (bS : Nat → Nat → Int32) (bn : Nat → Nat) (bds : Nat → Nat → Int32) (a0 : Int32) (a1 : Int32) (a2 : Int32) : Option ((Int64 × Int64 × (Nat → Int32)) ⊕ String) :=
  ex (f_X4_bondNumbered nb a0) fun v2 : Nat => ex (f_X4_requirePieces a1) fun v4 : Unit => ex (f_X4_requirePrice a2) fun v6 : Unit => ex (f_X4_requireWorkingDay N K hol) fun v8 : Unit => ex (f_X4_requireThere (bB a0.toNatClampNeg)) fun v10 : Unit => (f_X0_isIssued (bS a0.toNatClampNeg) (K 5)).bind fun v11 : Int32 => (if v11 = 0 then some (.inr "java/lang/IllegalStateException") else (if (((bB a0.toNatClampNeg) 4) + a1) ≤ 1000 then (f_X0_fullPrice N (bB a0.toNatClampNeg) (bS a0.toNatClampNeg) (bn a0.toNatClampNeg) (bds a0.toNatClampNeg) (K 5) a2).bind fun v14 : Int64 => bd (a1.toInt64 * v14 : Int64) fun x15 : Int64 => (if (lg_cmp x15 kc) ≤ 0 then bd (((bB a0.toNatClampNeg) 4) + a1 : Int32) fun x17 : Int32 => bd (kc - x15 : Int64) fun x18 : Int64 => some (.inl (x15, x18, va_up (bB a0.toNatClampNeg) 4 x17)) else some (.inr "java/lang/IllegalStateException")) else some (.inr "java/lang/IllegalStateException")))
def f_X4_sell (N : Nat) (K : Nat → Int32) (kc : Int64) (hol : Nat → Int32) (nb : Nat) (bB : Nat → Nat → Int32) (bS : Nat → Nat → Int32) (bn : Nat → Nat) (bds : Nat → Nat → Int32) (a0 : Int32) (a1 : Int32) (a2 : Int32) : Option ((Int64 × Int64 × (Nat → Int32)) ⊕ String) :=
  ex (f_X4_bondNumbered nb a0) fun v2 : Nat => ex (f_X4_requirePieces a1) fun v4 : Unit => ex (f_X4_requirePrice a2) fun v6 : Unit => ex (f_X4_requireWorkingDay N K hol) fun v8 : Unit => (if a1 ≤ ((bB a0.toNatClampNeg) 4) then (f_X0_fullPrice N (bB a0.toNatClampNeg) (bS a0.toNatClampNeg) (bn a0.toNatClampNeg) (bds a0.toNatClampNeg) (K 5) a2).bind fun v10 : Int64 => bd (a1.toInt64 * v10 : Int64) fun x11 : Int64 => bd (((bB a0.toNatClampNeg) 4) - a1 : Int32) fun x12 : Int32 => bd (kc + x11 : Int64) fun x13 : Int64 => some (.inl (x11, x13, va_up (bB a0.toNatClampNeg) 4 x12)) else some (.inr "java/lang/IllegalStateException"))
def f_X4_addBond (N : Nat) (K : Nat → Int32) (a0 : Int32) (a1 : Int32) (a2 : Int32) (a3 : Int32) (a4 : Int32) : Option ((Int32 × (Nat → Int32) × (Nat → Int32) × (Nat → Int64) × Nat × (Nat → Int32) × (Nat → Int32)) ⊕ String) :=
  ex (f_X4_requireLife K a0 a1) fun v2 : Unit => ex (f_X4_requireTerms a2 a3 a4) fun v4 : Unit => (f_X3_countCoupons N a0 a1 a3).bind fun v5 : Int32 => (if v5 < 1 then some (.inr "java/lang/IllegalArgumentException") else (if v5 ≤ 120 then (f_X3_dateBack a1 v5 a3).bind fun v8 : Int32 => (if 20160101 ≤ v8 then (if (K 4) < 0 then some (.inr "java/lang/IllegalStateException") else (if (K 4) < 10 then (f_X3_init N a0 a1 a2 a3 a4 v5).bind fun v14 : (Nat → Int32) × (Nat → Int64) × Nat × (Nat → Int32) => (f_X0_init N v14.2.2.1 v14.2.2.2 (K 5)).bind fun v16 : (Nat → Int32) => gd (¬ ((K 4) < 0 ∨ 10 ≤ (K 4).toNatClampNeg)) (bd ((K 4) + 1 : Int32) fun x18 : Int32 => some (.inl (x18 - 1, va_up K 4 x18, v14.1, v14.2.1, v14.2.2.1, v14.2.2.2, v16))) else some (.inr "java/lang/IllegalStateException"))) else some (.inr "java/lang/IllegalArgumentException")) else some (.inr "java/lang/IllegalArgumentException")))
def f_X4_lookAtBonds_L10 (nb : Nat) (N : Nat) (bS : Nat → Nat → Int32) (bT : Nat → Nat → Int64) (bn : Nat → Nat) (bds : Nat → Nat → Int32) (K : Nat → Int32) (K4 : (Nat → Int64) → (Nat → Nat → Int32) → Option ((Nat → Int64) × (Nat → Nat → Int32))) : Nat → Int32 → (Nat → Int64) → (Nat → Nat → Int32) → Option ((Nat → Int64) × (Nat → Nat → Int32))
  | 0, _, _, _ => none
  | n7 + 1, x1, w2, w3 => (if 10 ≤ x1 then K4 w2 w3 else gd (¬ (x1 < 0 ∨ 10 ≤ x1.toNatClampNeg)) ((if x1.toNatClampNeg < nb then (f_X0_lookUpTo N (w3 x1.toNatClampNeg) (bS x1.toNatClampNeg) (bT x1.toNatClampNeg) (bn x1.toNatClampNeg) (bds x1.toNatClampNeg) w2 (K 5) (K 7)).bind fun v11 : (Nat → Int32) × (Nat → Int64) => bd (x1 + 1) fun x12 : Int32 => f_X4_lookAtBonds_L10 nb N bS bT bn bds K K4 n7 x12 v11.2 (va_up w3 x1.toNatClampNeg v11.1) else bd (x1 + 1) fun x13 : Int32 => f_X4_lookAtBonds_L10 nb N bS bT bn bds K K4 n7 x13 w2 w3)))
def f_X4_lookAtBonds (N : Nat) (K : Nat → Int32) (LG : Nat → Int64) (nb : Nat) (bB : Nat → Nat → Int32) (bS : Nat → Nat → Int32) (bT : Nat → Nat → Int64) (bn : Nat → Nat) (bds : Nat → Nat → Int32) : Option ((Nat → Int64) × (Nat → Nat → Int32)) :=
  f_X4_lookAtBonds_L10 nb N bS bT bn bds K (fun (w5 : Nat → Int64) (w6 : Nat → Nat → Int32) => some (w5, w6)) N 0 LG bB
def f_X4_pass_L64 (a0 : Int32) (N : Nat) (v3 : Int32) (hol : Nat → Int32) (nb : Nat) (bS : Nat → Nat → Int32) (bT : Nat → Nat → Int64) (bn : Nat → Nat) (bds : Nat → Nat → Int32) (K12 : (Nat → Int32) → Int64 → (Nat → Int64) → (Nat → Nat → Int32) → Option ((Int64 × (Nat → Int32) × Int64 × (Nat → Int64) × (Nat → Nat → Int32)) ⊕ String)) : Nat → Int32 → (Nat → Int32) → Int64 → (Nat → Int64) → (Nat → Nat → Int32) → Option ((Int64 × (Nat → Int32) × Int64 × (Nat → Int64) × (Nat → Nat → Int32)) ⊕ String)
  | 0, _, _, _, _, _ => none
  | n17 + 1, x7, w8, w9, w10, w11 => (if a0 < x7 then K12 w8 w9 w10 w11 else (f_X1_dateOf N (v3 + x7)).bind fun v19 : Int32 => (f_X4_isWorkingDay N hol (v3 + x7)).bind fun v20 : Int32 => (if v20 = 0 then bd (x7 + 1) fun x22 : Int32 => f_X4_pass_L64 a0 N v3 hol nb bS bT bn bds K12 n17 x22 (va_up w8 5 v19) w9 w10 w11 else (f_X4_lookAtBonds N (va_up w8 5 v19) w10 nb w11 bS bT bn bds).bind fun v23 : (Nat → Int64) × (Nat → Nat → Int32) => bd (x7 + 1) fun x24 : Int32 => f_X4_pass_L64 a0 N v3 hol nb bS bT bn bds K12 n17 x24 (va_up w8 5 v19) w9 v23.1 v23.2))
def f_X4_pass (N : Nat) (K : Nat → Int32) (kc : Int64) (hol : Nat → Int32) (LG : Nat → Int64) (nb : Nat) (bB : Nat → Nat → Int32) (bS : Nat → Nat → Int32) (bT : Nat → Nat → Int64) (bn : Nat → Nat) (bds : Nat → Nat → Int32) (a0 : Int32) : Option ((Int64 × (Nat → Int32) × Int64 × (Nat → Int64) × (Nat → Nat → Int32)) ⊕ String) :=
  (if a0 < 1 then some (.inr "java/lang/IllegalArgumentException") else (if a0 ≤ 400 then (f_X1_dayNumber (K 5)).bind fun v3 : Int32 => (f_X1_dayNumber 20661101).bind fun v4 : Int32 => (if (v3 + a0) ≤ v4 then (f_X2_all LG).bind fun v6 : Int64 => f_X4_pass_L64 a0 N v3 hol nb bS bT bn bds (fun (w13 : Nat → Int32) (w14 : Int64) (w15 : Nat → Int64) (w16 : Nat → Nat → Int32) => (f_X2_all w15).bind fun v25 : Int64 => bd (v25 - v6 : Int64) fun x26 : Int64 => bd (w14 + x26 : Int64) fun x27 : Int64 => some (.inl (x26, w13, x27, w15, w16))) N 1 K kc LG bB else some (.inr "java/lang/IllegalStateException")) else some (.inr "java/lang/IllegalArgumentException")))
