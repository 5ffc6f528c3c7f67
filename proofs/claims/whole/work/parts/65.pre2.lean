/-! rows for what is made -/
abbrev eSr (hs : Nat) (r0 : Value) (S : Nat → Int32) (T : Nat → Int64) : Nat × va_E := (hs, .inr (2, [.int (S 0), .int (S 1), .int (S 2), .int (S 3), .int (S 4), .int (S 5), r0, .long (T 7), .long (T 8)]))
abbrev eBr (ht : Nat) (r0 : Value) (B : Nat → Int32) : Nat × va_E := (ht, .inr (0, [r0, .int (B 1), .int (B 2), .int (B 3), .int (B 4), .int (B 5), .int (B 6), .int (B 7), .int (B 8)]))
abbrev eKr (qk : Nat) (r0 r1 r2 : Value) (K : Nat → Int32) (kc : Int64) : Nat × va_E := (qk, .inr (3, [r0, r1, r2, .int (K 3), .int (K 4), .int (K 5), .long kc, .int (K 7)]))
abbrev eMr (hm : Nat) (r0 r1 r2 r3 : Value) (M : Nat → Int32) (mc : Int64) : Nat × va_E := (hm, .inr (4, [.int (M 0), .int (M 1), .long mc, .int (M 3), .int (M 4), .int (M 5), r0, r1, r2, r3]))
def iP (D : va_G) (tys : List (ClassId × FieldType)) (zs : Option Nat) (ws : va_W) (sz : Nat) (U : State) : Prop := mP D tys zs ws sz U ∧ va_AO RX0 U ∧ va_Nw (.methodLinkNest RX4 21 yX2_init RX4) U
theorem ip_blind {av : List Value} {D : va_G} {tys : List (ClassId × FieldType)} {zs : Option Nat} {ws : va_W} {sz : Nat} : FrameBlind (va_Pc av (iP D tys zs ws sz)) := fun _ U g mk q => ⟨q.1, mP_calling q.2.1, va_AO.moved (u := U) (U := U.calling g mk _) (Vm.Alike.refl U.vm) q.2.2.1, va_Nw.warmM (s := U) (U := U.calling g mk _) (State.WarmedH.refl U) q.2.2.2⟩
abbrev cQv {S : Type} (D : va_G) (A : Nat → Prop) (f : S → va_W) := va_Qv (fun _ : S => True) (fun u t => va_P D vwCl (f u) t.heap ∧ va_D A (f u)) A
theorem ka_eq {D : va_G} {cl : List vw_C} {tys : List (ClassId × FieldType)} {s : State} (hK : va_K D cl tys s) {ty : FieldType} (hp : (match ty with | .object _ => false | _ => true) = true) (i j : Nat) {c1 c2 : ClassId} (h1 : tys[i]? = some (c1, ty)) (h2 : tys[j]? = some (c2, ty)) : c1 = c2 := by
  have a := (hK.2 i _ h1).2
  have b := (hK.2 j _ h2).2
  cases ty with
  | object C => cases hp
  | _ => exact Option.some.inj (a.symm.trans b)
theorem ka_eqO {D : va_G} {cl : List vw_C} {tys : List (ClassId × FieldType)} {s : State} (hK : va_K D cl tys s) {C : String} (i j : Nat) {c1 c2 : ClassId} (h1 : tys[i]? = some (c1, .object C)) (h2 : tys[j]? = some (c2, .object C)) : c1 = c2 := by
  obtain ⟨_, _, _, _, _, a⟩ := (hK.2 i _ h1).2
  obtain ⟨_, _, _, _, _, b⟩ := (hK.2 j _ h2).2
  exact Option.some.inj (a.symm.trans b)
def f_X2_init : Option (Unit) :=
  some ()
def f_X3_init_L63 (a1 : Int32) (a3 : Int32) (K11 : (Nat → Int32) → (Nat → Int64) → Nat → (Nat → Int32) → Option ((Nat → Int32) × (Nat → Int64) × Nat × (Nat → Int32))) : Nat → Int32 → (Nat → Int32) → (Nat → Int64) → Nat → (Nat → Int32) → Option ((Nat → Int32) × (Nat → Int64) × Nat × (Nat → Int32))
  | 0, _, _, _, _, _ => none
  | n16 + 1, x6, w7, w8, w9, w10 => (if (nI w9) ≤ x6 then K11 w7 w8 w9 w10 else (f_X3_dateBack a1 (((nI w9) - 1) - x6) a3).bind fun v18 : Int32 => gd (¬ (x6 < 0 ∨ w9 ≤ x6.toNatClampNeg)) (bd (upd w10 x6.toNatClampNeg v18) fun w20 : Nat → Int32 => bd (x6 + 1) fun x21 : Int32 => f_X3_init_L63 a1 a3 K11 n16 x21 w7 w8 w9 w20))
def f_X3_init (N : Nat) (a0 : Int32) (a1 : Int32) (a2 : Int32) (a3 : Int32) (a4 : Int32) (a5 : Int32) : Option ((Nat → Int32) × (Nat → Int64) × Nat × (Nat → Int32)) :=
  (f_X3_dateBack a1 a5 a3).bind fun v1 : Int32 => bd (if 120 < a5 then 120 else a5 : Int32) fun x2 : Int32 => bd (if 0 < x2 then x2 else 0 : Int32) fun x3 : Int32 => gd (¬ x3 < 0 ∧ x3.toNatClampNeg ≤ 120) (f_X3_init_L63 a1 a3 (fun (w12 : Nat → Int32) (w13 : Nat → Int64) (w14 : Nat) (w15 : Nat → Int32) => jn (fun (x23 : Int32) => (f_X3_daysCounted w12 a0 x23).bind fun v24 : Int64 => (f_X3_yearOfPeriod w12 w14 w15 0).bind fun v25 : Int64 => some (w12, va_up (va_up w13 7 v24) 8 v25, w14, w15)) fun K22 => (if (nI w14) ≤ 0 then K22 a1 else gd (¬ ((0 : Int32) < 0 ∨ w14 ≤ (0 : Int32).toNatClampNeg)) (K22 (w15 (0 : Int32).toNatClampNeg)))) N 0 (va_up (va_up (va_up (va_up (va_up (va_up (fun _ => 0) 0 a0) 1 a1) 2 a2) 3 a3) 4 a4) 5 v1) (fun _ => 0) x3.toNatClampNeg (fun _ => 0))
def f_X0_init (N : Nat) (n : Nat) (ds : Nat → Int32) (a1 : Int32) : Option ((Nat → Int32)) :=
  (f_X3_firstBehind N n ds a1).bind fun v1 : Int32 => some (va_up (va_up (fun _ => 0) 1 (10000 : Int32)) 3 v1)
def f_X5_init (N : Nat) : Option ((Nat → Int32) × Int64) :=
  (f_X5_number N 20260101).bind fun v1 : Int32 => some (va_up (va_up (fun _ => 0) 1 v1) 3 (300 : Int32), (200000000 : Int64))
def f_X4_init : Option ((Nat → Int32) × Int64) :=
  some (va_up (va_up (fun _ => 0) 5 (20260101 : Int32)) 7 (300 : Int32), (200000000 : Int64))
