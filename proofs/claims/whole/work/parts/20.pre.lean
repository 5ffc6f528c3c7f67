/-! rows of our own: pictures of a world that a reading method keeps; mirrors as partial functions; their readings -/
abbrev ty3 (cI cJ cO : ClassId) : List (ClassId × FieldType) := [(cI, .int), (cJ, .long), (cO, .object RX0)]
def pz (A : Nat → Prop) (zs : Option Nat) (U : State) (H : Heap) : Prop := ∀ ah : Nat, zs = some ah → va_Z "BondDesk$Dates" "AHEAD" "[I" (.ref ah) A U H
def pw (D : va_G) (tys : List (ClassId × FieldType)) (zs : Option Nat) (ws : va_W) (U : State) : Prop := pz (fun _ => False) zs U U.heap ∧ va_P D vwCl ws U.heap ∧ va_K D vwCl tys U
theorem pw_calling {D : va_G} {tys : List (ClassId × FieldType)} {zs : Option Nat} {ws : va_W} {U : State} {g : JFrame} {mk : MethodId} {a : Array Value} (h : pw D tys zs ws U) : pw D tys zs ws (U.calling g mk a) :=
  ⟨fun ah e => va_Z.moved (u := U) (U := U.calling g mk a) (Vm.Alike.refl U.vm) (h.1 ah e), h.2.1, va_K.moved (u := U) (U := U.calling g mk a) (Vm.Alike.refl U.vm) h.2.2⟩
theorem pw_blind {av : List Value} {D : va_G} {tys : List (ClassId × FieldType)} {zs : Option Nat} {ws : va_W} : FrameBlind (va_Pc av (pw D tys zs ws)) := fun _ _ _ _ q => ⟨q.1, pw_calling q.2⟩
theorem pw_at {D : va_G} {tys : List (ClassId × FieldType)} {zs zs' : Option Nat} {ws ws' : va_W} {s U : State} {H : Heap} {A : Nat → Prop} {locs : List Loc} (hZ : pz A zs s s.heap) (hS : va_S A s.heap H locs) (hP : va_P D vwCl ws H) (hK : va_K D vwCl tys s) (hU : U.heap = H) (hW : s.WarmedH U.vm) (hz : zs' = none ∨ zs' = zs) (is : List Nat) (hs : is.filterMap (fun i => ws[i]?) = ws') : pw D tys zs' ws' U := by
  refine ⟨fun ah e => ?_, ?_, va_K.moved hW.alike hK⟩
  · rcases hz with h | h
    · rw [h] at e; cases e
    · rw [hU]
      exact va_Z.narrow (va_Z.moved hW.alike ((hZ ah (h ▸ e)).kept hS.2.1)) (fun _ f => f.elim)
  · rw [hU]; exact hP.sub is hs
def jn {β γ : Type} (b : β) (k : β → γ) : γ := k b
def bd {α β : Type} (x : α) (k : α → Option β) : Option β := k x
def gd {β : Type} (c : Prop) [Decidable c] (k : Option β) : Option β := if c then k else none
theorem it {β : Type} {c : Prop} {_ : Decidable c} {a b : Option β} {r : β} (h : (if c then a else b) = some r) (hc : c) : a = some r := by rw [if_pos hc] at h; exact h
theorem ie {β : Type} {c : Prop} {_ : Decidable c} {a b : Option β} {r : β} (h : (if c then a else b) = some r) (hc : ¬ c) : b = some r := by rw [if_neg hc] at h; exact h
theorem ob {α β : Type} {o : Option α} {k : α → Option β} {r : β} (h : o.bind k = some r) : ∃ v, o = some v ∧ k v = some r := by
  cases o with
  | none => cases h
  | some v => exact ⟨v, rfl, h⟩
theorem gd_s {β : Type} {c : Prop} {_ : Decidable c} {k : Option β} {r : β} (h : gd c k = some r) : c ∧ k = some r := by
  unfold gd at h
  split at h
  · exact ⟨by assumption, h⟩
  · cases h
theorem bd_s {α β : Type} {x v : α} {k : α → Option β} {r : β} (h : bd x k = some r) (e : v = x) : k v = some r := by subst e; exact h
theorem jn_s {β γ : Type} {b : β} {k : β → Option γ} {r : γ} (h : jn b k = some r) : ∃ K, K = b ∧ k K = some r := ⟨b, rfl, h⟩
theorem kx_s {β : Type} {P : β → Prop} {b : β} (h : P b) : ∃ K, K = b ∧ P K := ⟨b, rfl, h⟩
theorem no_s {β : Type} {r : β} (h : (none : Option β) = some r) : False := by cases h
theorem ne_ti {x y : Int32} (h : ¬ x = y) : ¬ x.toInt = y.toInt := fun e => h (Int32.toInt_inj.mp e)
theorem zn {v : Int32} (h : v = 0 ∨ v = 1) : narrow .boolean (.int v) = .int v := by rcases h with rfl | rfl <;> rfl
section RW
variable {p : Program} {l : Launch} {e : Env} {R : Room} {s : State} {m : MethodId} {args : Array Value} {below : List Frame} {meth : Method} {c : Code} {H : Heap} {locs : List Loc} {cells slots : Nat} {Q : State → Prop}
variable {pc : Nat} {ls : Array Slot} {rest st0 : List Value} {a : Array Value}
abbrev QSi (r : Int32) := vp_Si (fun w => w = r)
abbrev QSz (r : Int32) := vp_Si (fun w => w = r ∧ (w = 0 ∨ w = 1))
abbrev QSl (r : Int64) := vp_Sl (fun w => w = r)
abbrev QSq (r : Option Nat) := va_Sq (fun w => w = r)
theorem cSi {r : Int32} (hr : CallRun p l e R s m args below meth c H locs cells slots 0 0 (F0 m pc ls st0) rest (QSi r a) (fun _ => False))
    (kk : W p l e R s m args below meth c H locs cells slots Q (F0 m (pc + 3) ls (.int r :: rest))) : W p l e R s m args below meth c H locs cells slots Q (F0 m pc ls st0) := vp_callSi hr (fun w h => by rw [h]; exact kk)
theorem cSz {r : Int32} (hr : CallRun p l e R s m args below meth c H locs cells slots 0 0 (F0 m pc ls st0) rest (QSz r a) (fun _ => False))
    (kk : r = 0 ∨ r = 1 → W p l e R s m args below meth c H locs cells slots Q (F0 m (pc + 3) ls (.int r :: rest))) : W p l e R s m args below meth c H locs cells slots Q (F0 m pc ls st0) := vp_callSi hr (fun w h => by obtain ⟨h1, h2⟩ := h; subst h1; exact kk h2)
theorem cSl {r : Int64} (hr : CallRun p l e R s m args below meth c H locs cells slots 0 0 (F0 m pc ls st0) rest (QSl r a) (fun _ => False))
    (kk : W p l e R s m args below meth c H locs cells slots Q (F0 m (pc + 3) ls (.long r :: rest))) : W p l e R s m args below meth c H locs cells slots Q (F0 m pc ls st0) := vp_callSl hr (fun w h => by rw [h]; exact kk)
theorem cSq {r : Option Nat} (hr : CallRun p l e R s m args below meth c H locs cells slots 0 0 (F0 m pc ls st0) rest (QSq r a) (fun _ => False))
    (kk : W p l e R s m args below meth c H locs cells slots Q (F0 m (pc + 3) ls (va_rf r :: rest))) : W p l e R s m args below meth c H locs cells slots Q (F0 m pc ls st0) := va_csq hr (fun w h => by rw [h]; exact kk)
end RW
/-! the cells of the class and of the reference -/
def ahd : Nat → Int32 := fun k => match k with
  | 0 => 0
  | 1 => 31
  | 2 => 59
  | 3 => 90
  | 4 => 120
  | 5 => 151
  | 6 => 181
  | 7 => 212
  | 8 => 243
  | 9 => 273
  | 10 => 304
  | _ => 334
abbrev eA (cI : ClassId) (ah : Nat) : Nat × va_E := (ah, .inl (cI, 12, .inl ahd))
abbrev eD (cI : ClassId) (hd : Nat) (n : Nat) (ds : Nat → Int32) : Nat × va_E := (hd, .inl (cI, n, .inl ds))
abbrev eS (hs hd : Nat) (S : Nat → Int32) (T : Nat → Int64) : Nat × va_E := (hs, .inr (2, [.int (S 0), .int (S 1), .int (S 2), .int (S 3), .int (S 4), .int (S 5), .ref hd, .long (T 7), .long (T 8)]))
abbrev eB (ht hs : Nat) (B : Nat → Int32) : Nat × va_E := (ht, .inr (0, [.ref hs, .int (B 1), .int (B 2), .int (B 3), .int (B 4), .int (B 5), .int (B 6), .int (B 7), .int (B 8)]))
abbrev eM (hm mh mo my mp : Nat) (M : Nat → Int32) (mc : Int64) : Nat × va_E := (hm, .inr (4, [.int (M 0), .int (M 1), .long mc, .int (M 3), .int (M 4), .int (M 5), .ref mh, .ref mo, .ref my, .ref mp]))
abbrev eH (cI : ClassId) (mh : Nat) (mhol : Nat → Int32) : Nat × va_E := (mh, .inl (cI, 30, .inl mhol))
abbrev eO (cI : ClassId) (mo : Nat) (mof : Nat → Int32) : Nat × va_E := (mo, .inl (cI, 140, .inl mof))
abbrev eY (cI : ClassId) (my : Nat) (mdy : Nat → Int32) : Nat × va_E := (my, .inl (cI, 1210, .inl mdy))
abbrev eP (cJ : ClassId) (mp : Nat) (mpd : Nat → Int64) : Nat × va_E := (mp, .inl (cJ, 4, .inr (.inl mpd)))
