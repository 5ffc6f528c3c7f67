/-! rows of our own: pictures of a world that a reading method keeps; mirrors as partial functions; their readings -/
abbrev ty3 (cI cJ cO : ClassId) : List (ClassId × FieldType) := [(cI, .int), (cJ, .long), (cO, .object RX0)]
def ahd : Nat → Int32 := fun k => match k with
  | 0 => 0
  | 1 => 31
  | 2 => 59
  | 3 => 90
  | 4 => 120
  | 5 => 151
  | 6 => 181
  | 7 => 212
  | 8 => 243
  | 9 => 273
  | 10 => 304
  | _ => 334
def pz (A : Nat → Prop) (zs : Option Nat) (U : State) (H : Heap) : Prop := ∀ ah : Nat, zs = some ah → va_Z "BondDesk$Dates" "AHEAD" "[I" (.ref ah) A U H ∧ va_T .int ah 12 (fun k => .int (ahd k)) A U H
theorem pz_calling {A : Nat → Prop} {zs : Option Nat} {U : State} {H : Heap} {g : JFrame} {mk : MethodId} {a : Array Value} (h : pz A zs U H) : pz A zs (U.calling g mk a) H := fun ah e => ⟨va_Z.moved (u := U) (U := U.calling g mk a) (Vm.Alike.refl U.vm) (h ah e).1, va_T.moved (u := U) (U := U.calling g mk a) (Vm.Alike.refl U.vm) (h ah e).2⟩
theorem pz_at {A B : Nat → Prop} {zs zs' : Option Nat} {s U : State} {H : Heap} {locs : List Loc} (hZ : pz A zs s s.heap) (hS : va_S A s.heap H locs) (hW : s.WarmedH U.vm) (hz : zs' = none ∨ zs' = zs) (hAB : ∀ q, B q → A q) : pz B zs' U H := by
  intro ah e
  rcases hz with h | h
  · rw [h] at e; cases e
  · exact ⟨va_Z.narrow (va_Z.moved hW.alike ((hZ ah (h ▸ e)).1.kept hS.2.1)) hAB, va_T.narrow (va_T.moved hW.alike ((hZ ah (h ▸ e)).2.kept hS.2.1)) hAB⟩
def pw (D : va_G) (tys : List (ClassId × FieldType)) (zs : Option Nat) (ws : va_W) (U : State) : Prop := pz (fun _ => False) zs U U.heap ∧ va_P D vwCl ws U.heap ∧ va_K D vwCl tys U
theorem pw_calling {D : va_G} {tys : List (ClassId × FieldType)} {zs : Option Nat} {ws : va_W} {U : State} {g : JFrame} {mk : MethodId} {a : Array Value} (h : pw D tys zs ws U) : pw D tys zs ws (U.calling g mk a) :=
  ⟨pz_calling h.1, h.2.1, va_K.moved (u := U) (U := U.calling g mk a) (Vm.Alike.refl U.vm) h.2.2⟩
theorem pw_blind {av : List Value} {D : va_G} {tys : List (ClassId × FieldType)} {zs : Option Nat} {ws : va_W} : FrameBlind (va_Pc av (pw D tys zs ws)) := fun _ _ _ _ q => ⟨q.1, pw_calling q.2⟩
theorem pw_at {D : va_G} {tys : List (ClassId × FieldType)} {zs zs' : Option Nat} {ws ws' : va_W} {s U : State} {H : Heap} {A : Nat → Prop} {locs : List Loc} (hZ : pz A zs s s.heap) (hS : va_S A s.heap H locs) (hP : va_P D vwCl ws H) (hK : va_K D vwCl tys s) (hU : U.heap = H) (hW : s.WarmedH U.vm) (hz : zs' = none ∨ zs' = zs) (is : List Nat) (hs : is.filterMap (fun i => ws[i]?) = ws') : pw D tys zs' ws' U := by
  exact ⟨by rw [hU]; exact pz_at hZ hS hW hz (fun _ f => f.elim), by rw [hU]; exact hP.sub is hs, va_K.moved hW.alike hK⟩
def jn {β γ : Type} (b : β) (k : β → γ) : γ := k b
def bd {α β : Type} (x : α) (k : α → Option β) : Option β := k x
def gd {β : Type} (c : Prop) [Decidable c] (k : Option β) : Option β := if c then k else none
theorem it {β : Type} {c : Prop} {_ : Decidable c} {a b : Option β} {r : β} (h : (if c then a else b) = some r) (hc : c) : a = some r := by rw [if_pos hc] at h; exact h
theorem ie {β : Type} {c : Prop} {_ : Decidable c} {a b : Option β} {r : β} (h : (if c then a else b) = some r) (hc : ¬ c) : b = some r := by rw [if_neg hc] at h; exact h
theorem ob {α β : Type} {o : Option α} {k : α → Option β} {r : β} (h : o.bind k = some r) : ∃ v, o = some v ∧ k v = some r := by
  cases o with
  | none => cases h
  | some v => exact ⟨v, rfl, h⟩
theorem gd_s {β : Type} {c : Prop} {_ : Decidable c} {k : Option β} {r : β} (h : gd c k = some r) : c ∧ k = some r := by
  unfold gd at h
  split at h
  · exact ⟨by assumption, h⟩
  · cases h
theorem bd_s {α β : Type} {x v : α} {k : α → Option β} {r : β} (h : bd x k = some r) (e : v = x) : k v = some r := by subst e; exact h
theorem jn_s {β γ : Type} {b : β} {k : β → Option γ} {r : γ} (h : jn b k = some r) : ∃ K, K = b ∧ k K = some r := ⟨b, rfl, h⟩
theorem kx_s {β : Type} {P : β → Prop} {b : β} (h : P b) : ∃ K, K = b ∧ P K := ⟨b, rfl, h⟩
theorem no_s {β : Type} {r : β} (h : (none : Option β) = some r) : False := by cases h
theorem ne_ti {x y : Int32} (h : ¬ x = y) : ¬ x.toInt = y.toInt := fun e => h (Int32.toInt_inj.mp e)
theorem zn {v : Int32} (h : v = 0 ∨ v = 1) : narrow .boolean (.int v) = .int v := by rcases h with rfl | rfl <;> rfl
section RW
variable {p : Program} {l : Launch} {e : Env} {R : Room} {s : State} {m : MethodId} {args : Array Value} {below : List Frame} {meth : Method} {c : Code} {H : Heap} {locs : List Loc} {cells slots : Nat} {Q : State → Prop}
variable {pc : Nat} {ls : Array Slot} {rest st0 : List Value} {a : Array Value}
abbrev QSi (r : Int32) := vp_Si (fun w => w = r)
abbrev QSz (r : Int32) := vp_Si (fun w => w = r ∧ (w = 0 ∨ w = 1))
abbrev QSl (r : Int64) := vp_Sl (fun w => w = r)
abbrev QSq (r : Option Nat) := va_Sq (fun w => w = r)
theorem cSi {r : Int32} (hr : CallRun p l e R s m args below meth c H locs cells slots 0 0 (F0 m pc ls st0) rest (QSi r a) (fun _ => False))
    (kk : W p l e R s m args below meth c H locs cells slots Q (F0 m (pc + 3) ls (.int r :: rest))) : W p l e R s m args below meth c H locs cells slots Q (F0 m pc ls st0) := vp_callSi hr (fun w h => by rw [h]; exact kk)
theorem cSz {r : Int32} (hr : CallRun p l e R s m args below meth c H locs cells slots 0 0 (F0 m pc ls st0) rest (QSz r a) (fun _ => False))
    (kk : r = 0 ∨ r = 1 → W p l e R s m args below meth c H locs cells slots Q (F0 m (pc + 3) ls (.int r :: rest))) : W p l e R s m args below meth c H locs cells slots Q (F0 m pc ls st0) := vp_callSi hr (fun w h => by obtain ⟨h1, h2⟩ := h; subst h1; exact kk h2)
theorem cSl {r : Int64} (hr : CallRun p l e R s m args below meth c H locs cells slots 0 0 (F0 m pc ls st0) rest (QSl r a) (fun _ => False))
    (kk : W p l e R s m args below meth c H locs cells slots Q (F0 m (pc + 3) ls (.long r :: rest))) : W p l e R s m args below meth c H locs cells slots Q (F0 m pc ls st0) := vp_callSl hr (fun w h => by rw [h]; exact kk)
theorem cSq {r : Option Nat} (hr : CallRun p l e R s m args below meth c H locs cells slots 0 0 (F0 m pc ls st0) rest (QSq r a) (fun _ => False))
    (kk : W p l e R s m args below meth c H locs cells slots Q (F0 m (pc + 3) ls (va_rf r :: rest))) : W p l e R s m args below meth c H locs cells slots Q (F0 m pc ls st0) := va_csq hr (fun w h => by rw [h]; exact kk)
end RW
/-! the cells of the class and of the reference -/
abbrev eD (cI : ClassId) (hd : Nat) (n : Nat) (ds : Nat → Int32) : Nat × va_E := (hd, .inl (cI, n, .inl ds))
abbrev eS (hs hd : Nat) (S : Nat → Int32) (T : Nat → Int64) : Nat × va_E := (hs, .inr (2, [.int (S 0), .int (S 1), .int (S 2), .int (S 3), .int (S 4), .int (S 5), .ref hd, .long (T 7), .long (T 8)]))
abbrev eB (ht hs : Nat) (B : Nat → Int32) : Nat × va_E := (ht, .inr (0, [.ref hs, .int (B 1), .int (B 2), .int (B 3), .int (B 4), .int (B 5), .int (B 6), .int (B 7), .int (B 8)]))
abbrev eM (hm mh mo my mp : Nat) (M : Nat → Int32) (mc : Int64) : Nat × va_E := (hm, .inr (4, [.int (M 0), .int (M 1), .long mc, .int (M 3), .int (M 4), .int (M 5), .ref mh, .ref mo, .ref my, .ref mp]))
abbrev eH (cI : ClassId) (mh : Nat) (mhol : Nat → Int32) : Nat × va_E := (mh, .inl (cI, 30, .inl mhol))
abbrev eO (cI : ClassId) (mo : Nat) (mof : Nat → Int32) : Nat × va_E := (mo, .inl (cI, 140, .inl mof))
abbrev eY (cI : ClassId) (my : Nat) (mdy : Nat → Int32) : Nat × va_E := (my, .inl (cI, 1210, .inl mdy))
abbrev eP (cJ : ClassId) (mp : Nat) (mpd : Nat → Int64) : Nat × va_E := (mp, .inl (cJ, 4, .inr (.inl mpd)))
abbrev eL (hl : Nat) (LG : Nat → Int64) : Nat × va_E := (hl, .inr (1, [.long (LG 0), .long (LG 1), .long (LG 2), .long (LG 3)]))
abbrev eK (hk hh hb hl : Nat) (K : Nat → Int32) (kc : Int64) : Nat × va_E := (hk, .inr (3, [.ref hh, .ref hb, .ref hl, .int (K 3), .int (K 4), .int (K 5), .long kc, .int (K 7)]))
abbrev eG (cI : ClassId) (hh : Nat) (hol : Nat → Int32) : Nat × va_E := (hh, .inl (cI, 30, .inl hol))
abbrev eF (cO : ClassId) (hb nb : Nat) (ab : Nat → Nat) : Nat × va_E := (hb, .inl (cO, 10, .inr (.inr (.inr (.inr (fun i => if i < nb then some (ab i) else none))))))
abbrev fam (cI : ClassId) (ab as_ ad : Nat → Nat) (bB bS : Nat → Nat → Int32) (bT : Nat → Nat → Int64) (bn : Nat → Nat) (bds : Nat → Nat → Int32) : Nat → va_W := fun i => [eD cI (ad i) (bn i) (bds i), eS (as_ i) (ad i) (bS i) (bT i), eB (ab i) (as_ i) (bB i)]
/-! a world with bonds in any number, read alone -/
def pwB (D : va_G) (tys : List (ClassId × FieldType)) (zs : Option Nat) (ws : va_W) (nb : Nat) (fm : Nat → va_W) (U : State) : Prop := pw D tys zs ws U ∧ ∀ i : Nat, i < nb → va_P D vwCl (fm i) U.heap
theorem pwB_blind {av : List Value} {D : va_G} {tys : List (ClassId × FieldType)} {zs : Option Nat} {ws : va_W} {nb : Nat} {fm : Nat → va_W} : FrameBlind (va_Pc av (pwB D tys zs ws nb fm)) := fun _ _ _ _ q => ⟨q.1, pw_calling q.2.1, q.2.2⟩
theorem pwB_at {D : va_G} {tys : List (ClassId × FieldType)} {zs zs' : Option Nat} {ws ws' : va_W} {nb : Nat} {fm : Nat → va_W} {s U : State} {H : Heap} {A : Nat → Prop} {locs : List Loc} (hZ : pz A zs s s.heap) (hS : va_S A s.heap H locs) (hP : va_P D vwCl ws H) (hB : ∀ i : Nat, i < nb → va_P D vwCl (fm i) H) (hK : va_K D vwCl tys s) (hU : U.heap = H) (hW : s.WarmedH U.vm) (hz : zs' = none ∨ zs' = zs) (is : List Nat) (hs : is.filterMap (fun i => ws[i]?) = ws') : pwB D tys zs' ws' nb fm U :=
  ⟨pw_at hZ hS hP hK hU hW hz is hs, fun i hi => by rw [hU]; exact hB i hi⟩
/-! throwing -/
def thr_tx : List (Nat × String) := [(46, "days is not -1000 to 1000"), (58, "the date that is reached is beyond the calendar"), (75, "there are 30 holidays"), (79, "the date is later than 20661101"), (87, "there is no such date"), (106, "there would be more than 120 coupon dates"), (112, "the first period begins earlier than 20160101"), (117, "there are 10 bonds"), (129, "part is not 0 to 5000"), (151, "price is neither 0 nor 8000 to 15000"), (168, "what is not 0 to 10"), (174, "there is no such coupon date"), (185, "what is not 0 to 3"), (191, "the end is later than 20661101"), (193, "the end is not later than the issue date and today"), (195, "f is not 1, 2, 4 or 12"), (197, "way is not 0 to 3"), (199, "rate is not 0 to 2000"), (205, "the bond is gone"), (207, "there is no such bond"), (229, "rate is not 0 to 5000"), (231, "price is not 1 to 30000"), (242, "today is earlier than the issue date"), (247, "there would be more than 1000 pieces"), (253, "the cash is not enough"), (255, "so many pieces are not held"), (257, "days is not 1 to 400"), (259, "the date would be later than 20661101"), (268, "what is not 0 to 11"), (278, "to is earlier than from"), (310, "pieces is not 1 to 1000"), (312, "the year is not 2016 to 2066"), (314, "today is no working day")]
def thr_bw : List Cond := [.declares (Bundle.initS "java/lang/RuntimeException"), .declares (Bundle.initS "java/lang/Exception"), .declares (Bundle.initS Bundle.tN), .castable "java/lang/IllegalArgumentException" "java/lang/IllegalArgumentException", .castable "java/lang/IllegalStateException" "java/lang/IllegalStateException", .castable "java/lang/IndexOutOfBoundsException" "java/lang/IndexOutOfBoundsException"]
theorem thr_ot : ∀ w ∈ thr_bw, w.onTables = true := by decide +kernel
theorem thr_warm {s U : State} (hW : s.WarmedH U.vm) (h : ∀ w ∈ thr_bw, va_Nw w s) : ∀ w ∈ thr_bw, va_Nw w U := by
  intro w hw
  have h1 := h w hw
  simp only [thr_bw, List.mem_cons, List.not_mem_nil, or_false] at hw
  rcases hw with rfl | rfl | rfl | rfl | rfl | rfl
  · exact va_Nw.warmD hW h1
  · exact va_Nw.warmD hW h1
  · exact va_Nw.warmD hW h1
  · exact va_Nw.warmC hW h1
  · exact va_Nw.warmC hW h1
  · exact va_Nw.warmC hW h1
theorem thr_ng48 : ∀ w ∈ (vx_atS RX4 48 "java/lang/IllegalArgumentException" ["java/lang/RuntimeException", "java/lang/Exception"]).filter (fun w => !goodWord w), w ∈ thr_bw := by decide +kernel
theorem thr_ng77 : ∀ w ∈ (vx_atS RX4 77 "java/lang/IllegalStateException" ["java/lang/RuntimeException", "java/lang/Exception"]).filter (fun w => !goodWord w), w ∈ thr_bw := by decide +kernel
theorem thr_ng170 : ∀ w ∈ (vx_atS RX4 170 "java/lang/IndexOutOfBoundsException" ["java/lang/RuntimeException", "java/lang/Exception"]).filter (fun w => !goodWord w), w ∈ thr_bw := by decide +kernel
def px (A : Nat → Prop) (U : State) (H : Heap) : Prop := vx_Zq Bundle.tN "UNASSIGNED_STACK" Bundle.steD A U H ∧ vx_Zq Bundle.tN "SUPPRESSED_SENTINEL" Bundle.listD A U H ∧ (∀ q ∈ thr_tx, ∃ sa : Nat, vk_R RX4 q.1 q.2 sa U) ∧ ∀ w ∈ thr_bw, va_Nw w U
theorem px_at {s U : State} {H : Heap} {A B : Nat → Prop} {locs : List Loc} (hT : px A s s.heap) (hS : va_S A s.heap H locs) (hW : s.WarmedH U.vm) (hAB : ∀ q, B q → A q) : px B U H :=
  ⟨vx_Zq.narrow (vx_Zq.moved hW.alike (hT.1.kept hS.2.1)) hAB, vx_Zq.narrow (vx_Zq.moved hW.alike (hT.2.1.kept hS.2.1)) hAB, fun q hq => by
    obtain ⟨sa, hs⟩ := hT.2.2.1 q hq
    exact ⟨sa, vk_R.warm hW hs⟩, thr_warm hW hT.2.2.2⟩
def pT (B : State → Prop) (U : State) : Prop := B U ∧ px (fun _ => False) U U.heap
theorem px_calling {A : Nat → Prop} {U : State} {g : JFrame} {mk : MethodId} {a : Array Value} (h : px A U U.heap) : px A (U.calling g mk a) U.heap := px_at (U := U.calling g mk a) h (va_S.rf (A := A)) (State.WarmedH.refl U) (fun _ q => q)
theorem pT_blind {av : List Value} {D : va_G} {tys : List (ClassId × FieldType)} {zs : Option Nat} {ws : va_W} : FrameBlind (va_Pc av (pT (pw D tys zs ws))) := fun _ _ _ _ q => ⟨q.1, pw_calling q.2.1, px_calling q.2.2⟩
theorem pTB_blind {av : List Value} {D : va_G} {tys : List (ClassId × FieldType)} {zs : Option Nat} {ws : va_W} {nb : Nat} {fm : Nat → va_W} : FrameBlind (va_Pc av (pT (pwB D tys zs ws nb fm))) := fun _ _ _ _ q => ⟨q.1, ⟨pw_calling q.2.1.1, q.2.1.2⟩, px_calling q.2.2⟩
theorem pX_at {s U : State} {H : Heap} {A : Nat → Prop} {locs : List Loc} (hT : px A s s.heap) (hS : va_S A s.heap H locs) (hU : U.heap = H) (hW : s.WarmedH U.vm) : px (fun _ => False) U U.heap := by
  rw [hU]
  exact px_at hT hS hW (fun _ f => f.elim)
def XT {α : Type} (r : α ⊕ String) : String → State → State → Prop := fun E st t => r = .inr E ∧ va_F (fun _ => False) st t
def QTi (r : Int32 ⊕ String) : Array Value → State → Outcome → State → Prop := fun _ st o t => ∃ v : Int32, o = .returned (some (.int v)) ∧ r = .inl v ∧ t.heap = st.heap
def QTl (r : Int64 ⊕ String) : Array Value → State → Outcome → State → Prop := fun _ st o t => ∃ v : Int64, o = .returned (some (.long v)) ∧ r = .inl v ∧ t.heap = st.heap
def QTv (r : Unit ⊕ String) : Array Value → State → Outcome → State → Prop := fun _ st o t => o = .returned none ∧ r = .inl () ∧ t.heap = st.heap
def QTr (ad : Nat → Nat) (r : Nat ⊕ String) : Array Value → State → Outcome → State → Prop := fun _ st o t => ∃ i : Nat, o = .returned (some (.ref (ad i))) ∧ r = .inl i ∧ t.heap = st.heap
def exm {α β : Type} (rr : α ⊕ String) (k : α → Option (β ⊕ String)) : Option (β ⊕ String) := match rr with
  | .inl v => k v
  | .inr E => some (.inr E)
def ex {α β : Type} (o : Option (α ⊕ String)) (k : α → Option (β ⊕ String)) : Option (β ⊕ String) := o.bind fun rr => exm rr k
theorem exs {α β : Type} {o : Option (α ⊕ String)} {k : α → Option (β ⊕ String)} {r : β ⊕ String} (h : ex o k = some r) : ∃ rr, o = some rr ∧ exm rr k = some r := ob h
theorem ex_l {α β : Type} {rr : α ⊕ String} {k : α → Option (β ⊕ String)} {r : β ⊕ String} {w : α} (h : exm rr k = some r) (e : rr = .inl w) : k w = some r := by subst e; exact h
theorem ex_r {α β : Type} {rr : α ⊕ String} {k : α → Option (β ⊕ String)} {r : β ⊕ String} {E : String} (h : exm rr k = some r) (e : rr = .inr E) : r = .inr E := by subst e; exact (Option.some.inj h).symm
section RT
variable {p : Program} {l : Launch} {e : Env} {R : Room} {s : State} {m : MethodId} {args : Array Value} {below : List Frame} {meth : Method} {c : Code} {H : Heap} {locs : List Loc} {cells slots : Nat} {Q : State → Prop}
variable {pc : Nat} {ls : Array Slot} {rest st0 : List Value} {a : Array Value} {mc ms : Nat}
/-- what a thrown call leaves -/
abbrev kX (α : Type) (rr : α ⊕ String) (p : Program) (l : Launch) (e : Env) (R : Room) (s : State) (m : MethodId) (args : Array Value) (below : List Frame) (meth : Method) (c : Code) (H : Heap) (locs : List Loc) (cells slots : Nat) (Q : State → Prop) (pc : Nat) (ls : Array Slot) (rest : List Value) : Prop :=
  ∀ (E : String) (ce : Cell) (q9 : Addr) (H1 : Heap) (locs1 : List Loc), rr = .inr E → H.size ≤ H1.size → (∀ q : Nat, q < H.size → H1[q]? = H[q]?) → locs1 = locs → H1[q9]? = some ce → ce.vm = .none → s.vm.findClass E = some ce.cls → vx_W p l e R s m args below meth c H1 locs1 cells slots Q (F0 m pc ls rest) q9
theorem xS_x {α : Type} {rr : α ⊕ String} (kx : kX α rr p l e R s m args below meth c H locs (cells + mc) (slots + ms) Q pc ls rest) {T T' t st₀ : State} {L : List Loc} {E : String} {ce : Cell} {q : Addr} (h0 : st₀.heap = H) (X' : Stand p l e R s m args below meth c T' (locs ++ L) (cells + mc) (slots + ms)) (hL : ∀ z ∈ L, False) (e1 : T'.heap = t.heap) (hx : XT rr E st₀ t) (hce : t.heap[q]? = some ce) (hcv : ce.vm = .none) (hcl : s.vm.findClass E = some ce.cls) (st : Steps p.tables e below T ((T'.setTop (F0 m pc ls rest)).pushFrame (.throwing q))) : ∃ t, Steps p.tables e below T t ∧ Q t := by
  obtain ⟨hE, hz, hk⟩ := hx
  rw [h0] at hz hk
  obtain ⟨t2, a1, b1⟩ := kx E ce q T'.heap locs hE (by rw [e1]; exact hz) (fun q h => by rw [e1]; exact hk q h (fun f => f)) rfl (by rw [e1]; exact hce) hcv hcl T' rfl (Stand.forget X' (fun q h => (hL q h).elim))
  exact ⟨t2, st.trans a1, b1⟩
theorem xSi {rr : Int32 ⊕ String} (hr : vx_Run p l e R s m args below meth c H locs cells slots mc ms (F0 m pc ls st0) rest (QTi rr a) (XT rr) (fun _ => False))
    (kx : kX Int32 rr p l e R s m args below meth c H locs (cells + mc) (slots + ms) Q pc ls rest)
    (kk : ∀ w : Int32, rr = .inl w → W p l e R s m args below meth c H locs (cells + mc) (slots + ms) Q (F0 m (pc + 3) ls (.int w :: rest))) : W p l e R s m args below meth c H locs cells slots Q (F0 m pc ls st0) := by
  intro T hT X
  rcases hr T hT X with ⟨v, st₀, t, T', L, h0, X', hL, e1, e2, ⟨w, hv, hw, hh⟩, st⟩ | ⟨q, st₀, t, T', L, E, ce, h0, X', hL, e1, e2, hx, hce, hcv, hcl, st⟩
  · cases hv
    obtain ⟨t2, a1, b1⟩ := kk w hw T' (by rw [e1, hh, h0]) (Stand.forget X' (fun q h => (hL q h).elim))
    exact ⟨t2, st t2 a1, b1⟩
  · exact xS_x kx h0 X' hL e1 hx hce hcv hcl st
theorem xSl {rr : Int64 ⊕ String} (hr : vx_Run p l e R s m args below meth c H locs cells slots mc ms (F0 m pc ls st0) rest (QTl rr a) (XT rr) (fun _ => False))
    (kx : kX Int64 rr p l e R s m args below meth c H locs (cells + mc) (slots + ms) Q pc ls rest)
    (kk : ∀ w : Int64, rr = .inl w → W p l e R s m args below meth c H locs (cells + mc) (slots + ms) Q (F0 m (pc + 3) ls (.long w :: rest))) : W p l e R s m args below meth c H locs cells slots Q (F0 m pc ls st0) := by
  intro T hT X
  rcases hr T hT X with ⟨v, st₀, t, T', L, h0, X', hL, e1, e2, ⟨w, hv, hw, hh⟩, st⟩ | ⟨q, st₀, t, T', L, E, ce, h0, X', hL, e1, e2, hx, hce, hcv, hcl, st⟩
  · cases hv
    obtain ⟨t2, a1, b1⟩ := kk w hw T' (by rw [e1, hh, h0]) (Stand.forget X' (fun q h => (hL q h).elim))
    exact ⟨t2, st t2 a1, b1⟩
  · exact xS_x kx h0 X' hL e1 hx hce hcv hcl st
theorem xSv {rr : Unit ⊕ String} (hr : vx_Run p l e R s m args below meth c H locs cells slots mc ms (F0 m pc ls st0) rest (QTv rr a) (XT rr) (fun _ => False))
    (kx : kX Unit rr p l e R s m args below meth c H locs (cells + mc) (slots + ms) Q pc ls rest)
    (kk : ∀ w : Unit, rr = .inl w → W p l e R s m args below meth c H locs (cells + mc) (slots + ms) Q (F0 m (pc + 3) ls rest)) : W p l e R s m args below meth c H locs cells slots Q (F0 m pc ls st0) := by
  intro T hT X
  rcases hr T hT X with ⟨v, st₀, t, T', L, h0, X', hL, e1, e2, ⟨hv, hw, hh⟩, st⟩ | ⟨q, st₀, t, T', L, E, ce, h0, X', hL, e1, e2, hx, hce, hcv, hcl, st⟩
  · cases hv
    obtain ⟨t2, a1, b1⟩ := kk () hw T' (by rw [e1, hh, h0]) (Stand.forget X' (fun q h => (hL q h).elim))
    exact ⟨t2, st t2 a1, b1⟩
  · exact xS_x kx h0 X' hL e1 hx hce hcv hcl st
theorem xSr {ad : Nat → Nat} {rr : Nat ⊕ String} (hr : vx_Run p l e R s m args below meth c H locs cells slots mc ms (F0 m pc ls st0) rest (QTr ad rr a) (XT rr) (fun _ => False))
    (kx : kX Nat rr p l e R s m args below meth c H locs (cells + mc) (slots + ms) Q pc ls rest)
    (kk : ∀ w : Nat, rr = .inl w → W p l e R s m args below meth c H locs (cells + mc) (slots + ms) Q (F0 m (pc + 3) ls (.ref (ad w) :: rest))) : W p l e R s m args below meth c H locs cells slots Q (F0 m pc ls st0) := by
  intro T hT X
  rcases hr T hT X with ⟨v, st₀, t, T', L, h0, X', hL, e1, e2, ⟨w, hv, hw, hh⟩, st⟩ | ⟨q, st₀, t, T', L, E, ce, h0, X', hL, e1, e2, hx, hce, hcv, hcl, st⟩
  · cases hv
    obtain ⟨t2, a1, b1⟩ := kk w hw T' (by rw [e1, hh, h0]) (Stand.forget X' (fun q h => (hL q h).elim))
    exact ⟨t2, st t2 a1, b1⟩
  · exact xS_x kx h0 X' hL e1 hx hce hcv hcl st
end RT
/-! writing -/
def mP (D : va_G) (tys : List (ClassId × FieldType)) (zs : Option Nat) (ws : va_W) (sz : Nat) (U : State) : Prop := U.heap.size = sz ∧ pz (va_A ws sz) zs U U.heap ∧ va_P D vwCl ws U.heap ∧ va_K D vwCl tys U ∧ va_D (fun _ => True) ws
def tP (D : va_G) (tys : List (ClassId × FieldType)) (zs : Option Nat) (ws : va_W) (sz : Nat) (U : State) : Prop := mP D tys zs ws sz U ∧ px (va_A ws sz) U U.heap
theorem mP_calling {D : va_G} {tys : List (ClassId × FieldType)} {zs : Option Nat} {ws : va_W} {sz : Nat} {U : State} {g : JFrame} {mk : MethodId} {a : Array Value} (h : mP D tys zs ws sz U) : mP D tys zs ws sz (U.calling g mk a) :=
  ⟨h.1, pz_calling h.2.1, h.2.2.1, va_K.moved (u := U) (U := U.calling g mk a) (Vm.Alike.refl U.vm) h.2.2.2.1, h.2.2.2.2⟩
theorem mp_blind {av : List Value} {D : va_G} {tys : List (ClassId × FieldType)} {zs : Option Nat} {ws : va_W} {sz : Nat} : FrameBlind (va_Pc av (mP D tys zs ws sz)) := fun _ _ _ _ q => ⟨q.1, mP_calling q.2⟩
theorem tp_blind {av : List Value} {D : va_G} {tys : List (ClassId × FieldType)} {zs : Option Nat} {ws : va_W} {sz : Nat} : FrameBlind (va_Pc av (tP D tys zs ws sz)) := fun _ _ _ _ q => ⟨q.1, mP_calling q.2.1, px_calling q.2.2⟩
theorem mp_at {D : va_G} {tys : List (ClassId × FieldType)} {zs zs' : Option Nat} {wc : va_W} {s U : State} {H : Heap} {A : Nat → Prop} {locs : List Loc} (hZ : pz A zs s s.heap) (hS : va_S A s.heap H locs) (hPc : va_P D vwCl wc H) (hK : va_K D vwCl tys s) (hDc : va_D A wc) (hFc : ∀ q, va_A wc H.size q → A q) (hU : U.heap = H) (hW : s.WarmedH U.vm) (hz : zs' = none ∨ zs' = zs) : mP D tys zs' wc H.size U := by
  exact ⟨by rw [hU], by rw [hU]; exact pz_at hZ hS hW hz hFc, by rw [hU]; exact hPc, va_K.moved hW.alike hK, hDc.weaken (fun _ _ _ _ => trivial)⟩
def mB (D : va_G) (ws : va_W) (A : Nat → Prop) (_ : Unit) (t : State) : Prop := va_P D vwCl ws t.heap ∧ va_D A ws
abbrev mQv (D : va_G) (A : Nat → Prop) (ws : va_W) := va_Qv (fun _ : Unit => True) (mB D ws A) A
abbrev mQi (D : va_G) (A : Nat → Prop) (v : Int32) (ws : va_W) := va_Qi (fun (w : Int32) (_ : Unit) => w = v) (mB D ws A) A
abbrev mQl (D : va_G) (A : Nat → Prop) (v : Int64) (ws : va_W) := va_Ql (fun (w : Int64) (_ : Unit) => w = v) (mB D ws A) A
def tQi {β : Type} (D : va_G) (A : Nat → Prop) (r : β ⊕ String) (fv : β → Int32) (fw : β → va_W) : Array Value → State → Outcome → State → Prop := fun _ st o t => ∃ u : β, r = .inl u ∧ o = .returned (some (.int (fv u))) ∧ va_P D vwCl (fw u) t.heap ∧ va_D A (fw u) ∧ va_F A st t
def tQl {β : Type} (D : va_G) (A : Nat → Prop) (r : β ⊕ String) (fv : β → Int64) (fw : β → va_W) : Array Value → State → Outcome → State → Prop := fun _ st o t => ∃ u : β, r = .inl u ∧ o = .returned (some (.long (fv u))) ∧ va_P D vwCl (fw u) t.heap ∧ va_D A (fw u) ∧ va_F A st t
section RB
variable {p : Program} {l : Launch} {e : Env} {R : Room} {s : State} {m : MethodId} {args : Array Value} {below : List Frame} {meth : Method} {c : Code} {H : Heap} {locs : List Loc} {cells slots : Nat} {Q : State → Prop}
variable {cc : ByteArray} {pc : Nat} {ls : Array Slot} {rest : List Value} {D : va_G} {cl : List vw_C} {a : Nat} {tys : List (ClassId × FieldType)} {ws : va_W}
theorem aldB (hexec : p.tables.exec = Jvm.exec) (hb : c.code = cc) (hK : va_K D cl tys s) (hP : va_P D cl ws H) (q0 t0 : Nat) {cA : ClassId} {C : String} {n nb : Nat} {ab : Nat → Nat} (ha : ws[q0]? = some (a, .inl (cA, n, .inr (.inr (.inr (.inr (fun i => if i < nb then some (ab i) else none))))))) (ht : tys[t0]? = some (cA, .object C)) {i : Int32} (hin : vp_in i n) (hdg : decode cc pc = .ok (.aaload, 1))
    (kt : i.toNatClampNeg < nb → W p l e R s m args below meth c H locs cells slots Q (F0 m (pc + 1) ls (.ref (ab i.toNatClampNeg) :: rest)))
    (kf : ¬ i.toNatClampNeg < nb → W p l e R s m args below meth c H locs cells slots Q (F0 m (pc + 1) ls (.null :: rest))) : W p l e R s m args below meth c H locs cells slots Q (F0 m pc ls (.int i :: .ref a :: rest)) := by
  refine va_aldq hexec hb hK hP q0 t0 ha ht hin hdg ?_
  show W p l e R s m args below meth c H locs cells slots Q (F0 m (pc + 1) ls (va_rf (if i.toNatClampNeg < nb then some (ab i.toNatClampNeg) else none) :: rest))
  by_cases h : i.toNatClampNeg < nb
  · rw [if_pos h]; exact kt h
  · rw [if_neg h]; exact kf h
end RB
