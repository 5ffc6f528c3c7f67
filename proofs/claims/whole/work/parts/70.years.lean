abbrev QSd (r : UInt64) := vp_Sd (fun w => w = r)
abbrev mQd (D : va_G) (A : Nat → Prop) (v : UInt64) (ws : va_W) := va_Qd (fun (w : UInt64) (_ : Unit) => w = v) (mB D ws A) A
def f_X4_years_L18 (nb : Nat) (bB : Nat → Nat → Int32) (K : Nat → Int32) (bS : Nat → Nat → Int32) (K4 : Int64 → Int64 → Option (UInt64)) : Nat → Int64 → Int64 → Int32 → Option (UInt64)
  | 0, _, _, _ => none
  | n7 + 1, x1, x2, x3 => (if 10 ≤ x3 then K4 x1 x2 else gd (¬ (x3 < 0 ∨ 10 ≤ x3.toNatClampNeg)) ((if x3.toNatClampNeg < nb then (f_X0_face (bB x3.toNatClampNeg)).bind fun v11 : Int64 => bd ((((bB x3.toNatClampNeg) 4).toInt64) * v11 : Int64) fun x12 : Int64 => bd (x1 + x12 : Int64) fun x13 : Int64 => (f_X1_daysBetween (K 5) ((bS x3.toNatClampNeg) 1)).bind fun v14 : Int32 => bd (x2 + (x12 * v14.toInt64) : Int64) fun x15 : Int64 => bd (x3 + 1) fun x16 : Int32 => f_X4_years_L18 nb bB K bS K4 n7 x13 x15 x16 else bd (x3 + 1) fun x17 : Int32 => f_X4_years_L18 nb bB K bS K4 n7 x1 x2 x17)))
def f_X4_years (N : Nat) (K : Nat → Int32) (nb : Nat) (bB : Nat → Nat → Int32) (bS : Nat → Nat → Int32) : Option (UInt64) :=
  f_X4_years_L18 nb bB K bS (fun (x5 : Int64) (x6 : Int64) => (if 0 < (lg_cmp x5 0) then gd (FP.ddiv (FP.l2d x6) (FP.l2d x5) &&& 0x7fffffffffffffff ≤ 0x7ff0000000000000) (gd (FP.ddiv (FP.ddiv (FP.l2d x6) (FP.l2d x5)) 4645128764097822720 &&& 0x7fffffffffffffff ≤ 0x7ff0000000000000) (some (FP.ddiv (FP.ddiv (FP.l2d x6) (FP.l2d x5)) 4645128764097822720))) else some FP.dconst0)) N 0 0 0
def f_X5_years_L12 (M : Nat → Int32) (mof : Nat → Int32) (K4 : Int64 → Int64 → Option (UInt64 × (Nat → Int32))) : Nat → Int64 → Int64 → Int32 → Option (UInt64 × (Nat → Int32))
  | 0, _, _, _ => none
  | n7 + 1, x1, x2, x3 => (if (M 4) ≤ x3 then K4 x1 x2 else (f_X5_own mof x3 5).bind fun v9 : Int32 => (f_X5_own mof x3 9).bind fun v10 : Int32 => bd ((10 * v9.toInt64) * v10.toInt64 : Int64) fun x11 : Int64 => bd (x1 + x11 : Int64) fun x12 : Int64 => (f_X5_own mof x3 1).bind fun v13 : Int32 => bd (x2 + (x11 * ((v13 - (M 1)).toInt64)) : Int64) fun x14 : Int64 => bd (x3 + 1) fun x15 : Int32 => f_X5_years_L12 M mof K4 n7 x12 x14 x15)
def f_X5_years (N : Nat) (M : Nat → Int32) (mof : Nat → Int32) : Option (UInt64 × (Nat → Int32)) :=
  f_X5_years_L12 M mof (fun (x5 : Int64) (x6 : Int64) => (if (lg_cmp x5 0) = 0 then some (FP.dconst0, va_up M 0 (0 : Int32)) else gd (FP.ddiv (FP.l2d x6) (FP.l2d x5) &&& 0x7fffffffffffffff ≤ 0x7ff0000000000000) (gd (FP.ddiv (FP.ddiv (FP.l2d x6) (FP.l2d x5)) 4645128764097822720 &&& 0x7fffffffffffffff ≤ 0x7ff0000000000000) (some (FP.ddiv (FP.ddiv (FP.l2d x6) (FP.l2d x5)) 4645128764097822720, va_up M 0 (0 : Int32)))))) N 0 0 0
theorem inX4_years_X0 : ∀ w ∈ wsX00, w ∈ wsX4_years := by decide +kernel
theorem inX4_years_X3 : ∀ w ∈ wsX30, w ∈ wsX4_years := by decide +kernel
theorem inX4_years_X4 : ∀ w ∈ wsX40, w ∈ wsX4_years := by decide +kernel
set_option maxHeartbeats 4000000 in
set_option maxRecDepth 100000 in
theorem m_X4_years (l : Launch) (D : va_G) (cI cJ cO : ClassId) (ah : Nat) (qk : Nat) (qh : Nat) (qb : Nat) (ql : Nat) (ab : Nat → Nat) (as_ : Nat → Nat) (ad : Nat → Nat) (K : Nat → Int32) (kc : Int64) (hol : Nat → Int32) (LG : Nat → Int64) (nb : Nat) (bB : Nat → Nat → Int32) (bS : Nat → Nat → Int32) (bT : Nat → Nat → Int64) (bn : Nat → Nat) (bds : Nat → Nat → Int32) (N : Nat) (r : UInt64) (hf : f_X4_years N K nb bB bS = some r) : Met l yX4_years wsX4_years ({ frames := 2, cells := 0, slots := 0, locals := 45 }) (va_Pc [.ref qk] (pwB D (ty3 cI cJ cO) (some ah) [eK qk qh qb ql K kc, eG cI qh hol, eF cO qb nb ab, eL ql LG] nb (fam cI ab as_ ad bB bS bT bn bds))) (QSd r) 0 0 (fun _ => False) := by
  refine Met.ofW (cc := cX4_years) (maxL := 11) (ret := (some .double)) (by decide) rfl ?_
  intro p e s m args below meth c s₁ Bd hml hv
  obtain ⟨rfl, ⟨hZ, hP, hK⟩, hB⟩ := hv
  have hx := Bd.exec
  have hb := Bd.bytes
  have hr := Bd.returns
  have hts := atoms_spec (ws := wsX4_years) Bd.pre
  have hown : s.vm.findClass RX4 = some m.cls := findClass_of_methodNamed Bd.named
  have hlocks := Bd.notSynchronized
  have hl := lv_entry ([.ref qk]) (n := 11) (Nat.le_of_ble_eq_true rfl)
  rw [lg_entry_eq]
  generalize (lg_sl ([.ref qk]) ++ List.replicate (11 - (lg_sl ([.ref qk])).length) Slot.unset).toArray = ls at hl ⊢
  have hl : lv_has ls 11 [(0, .ref qk)] := hl
  unfold f_X4_years at hf
  refine lv_lconst (v := 0) hx hb dX4_years_0 (by decide) ?_
  refine lv_lstore_n (lv' := [(1, .long 0), (0, .ref qk)]) hx hb dX4_years_1 rfl hl (by decide) rfl (fun ls hl => ?_)
  refine lv_lconst (v := 0) hx hb dX4_years_2 (by decide) ?_
  refine lv_lstore_n (lv' := [(3, .long 0), (1, .long 0), (0, .ref qk)]) hx hb dX4_years_3 rfl hl (by decide) rfl (fun ls hl => ?_)
  refine lv_aload_n hx hb dX4_years_4 rfl (lv_at hl 2 rfl) ?_
  refine va_get (D := D) (ci := 3) (v := .ref qb) (C := RX4) (T := TX4) (N := 8) hx hb hts inX4_years_X4 hown hK hP 0 rfl rfl 1 (by decide) (hts (.fieldLink RX4 15 "BondDesk" "bonds" "[LBondDesk$Bond;") (by decide +kernel)) (fun _ h9 => h9) rfl dX4_years_5 ?_
  refine lv_astore (lv' := [(5, .ref qb), (3, .long 0), (1, .long 0), (0, .ref qk)]) hx hb dX4_years_8 hl (by decide) rfl (fun ls hl => ?_)
  refine lv_aload hx hb dX4_years_10 (lv_at hl 0 rfl) ?_
  refine va_alen (v := 10) hx hb hK hP 2 2 rfl rfl rfl dX4_years_12 ?_
  refine lv_istore (lv' := [(6, .int 10), (5, .ref qb), (3, .long 0), (1, .long 0), (0, .ref qk)]) hx hb dX4_years_13 hl (by decide) rfl (fun ls hl => ?_)
  refine lv_iconst (v := 0) hx hb dX4_years_15 (by decide) ?_
  refine lv_istore (lv' := [(7, .int 0), (6, .int 10), (5, .ref qb), (3, .long 0), (1, .long 0), (0, .ref qk)]) hx hb dX4_years_16 hl (by decide) rfl (fun ls hl => ?_)
  obtain ⟨K4, hK4, hf⟩ := kx_s (P := fun k => f_X4_years_L18 nb bB K bS k N 0 0 0 = some r) hf
  have JK4 : ∀ (x5 : Int64) (x6 : Int64) (ls : Array Slot), lv_has ls 11 [(1, .long x5), (3, .long x6)] → K4 x5 x6 = some r → W p l e (headSpec wsX4_years ({ frames := 2, cells := 0, slots := 0, locals := 45 })).room s m ([.ref qk] : List Value).toArray below meth c s.heap [] 0 0 (MQ below (QSd r) ([.ref qk] : List Value).toArray s 0 0 (fun _ => False)) (F0 m 84 ls []) := by
    intro x5 x6 ls hl hf
    rw [hK4] at hf
    refine lv_lload_n hx hb dX4_years_84 rfl (lv_at hl 0 rfl) ?_
    refine lv_lconst (v := 0) hx hb dX4_years_85 (by decide) ?_
    refine W.lcmp hx hb dX4_years_86 ?_
    refine lv_if_gt (tgt := 94) hx hb dX4_years_87 (by decide) (fun c18 => ?_) (fun c18 => ?_)
    · have hf := it hf c18
      refine lv_lload_n hx hb dX4_years_94 rfl (lv_at hl 1 rfl) ?_
      refine lv_l2d hx hb dX4_years_95 ?_
      refine lv_lload_n hx hb dX4_years_96 rfl (lv_at hl 0 rfl) ?_
      refine lv_l2d hx hb dX4_years_97 ?_
      obtain ⟨c19, hf⟩ := gd_s hf
      refine lv_ddiv hx hb dX4_years_98 c19 ?_
      refine lv_ldc2d hx hb hown (hts (.constantDouble RX4 300 (4645128764097822720)) (by decide +kernel)) dX4_years_99 ?_
      obtain ⟨c20, hf⟩ := gd_s hf
      refine lv_ddiv hx hb dX4_years_102 c20 ?_
      exact W.dret hx hb hr (fun t ht _ => ⟨_, rfl, Option.some.inj hf, ht⟩) (fun q hq => absurd hq List.not_mem_nil) dX4_years_103
    · have hf := ie hf c18
      refine lv_dconst0 hx hb dX4_years_90 ?_
      refine lv_goto (tgt := 103) hx hb dX4_years_91 (by decide) ?_
      exact W.dret hx hb hr (fun t ht _ => ⟨_, rfl, Option.some.inj hf, ht⟩) (fun q hq => absurd hq List.not_mem_nil) dX4_years_103
  have LP18 : ∀ (n7 : Nat) (x1 : Int64) (x2 : Int64) (x3 : Int32) (ls : Array Slot), lv_has ls 11 [(0, .ref qk), (1, .long x1), (3, .long x2), (5, .ref qb), (6, .int 10), (7, .int x3)] → f_X4_years_L18 nb bB K bS K4 n7 x1 x2 x3 = some r → W p l e (headSpec wsX4_years ({ frames := 2, cells := 0, slots := 0, locals := 45 })).room s m ([.ref qk] : List Value).toArray below meth c s.heap [] 0 0 (MQ below (QSd r) ([.ref qk] : List Value).toArray s 0 0 (fun _ => False)) (F0 m 18 ls []) := by
    intro n7
    induction n7 with
    | zero => intro x1 x2 x3 ls hl hf; exact (no_s hf).elim
    | succ n7 ih7 =>
      intro x1 x2 x3 ls hl hf
      rw [f_X4_years_L18] at hf
      refine lv_iload hx hb dX4_years_18 (lv_at hl 5 rfl) ?_
      refine lv_iload hx hb dX4_years_20 (lv_at hl 4 rfl) ?_
      refine lv_icmp_ge (tgt := 84) hx hb dX4_years_22 (by decide) (fun c8 => ?_) (fun c8 => ?_)
      · have hf := it hf c8
        exact JK4 x1 x2 ls (lv_sub hl [1, 2] rfl) hf
      · have hf := ie hf c8
        refine lv_aload hx hb dX4_years_25 (lv_at hl 3 rfl) ?_
        refine lv_iload hx hb dX4_years_27 (lv_at hl 5 rfl) ?_
        obtain ⟨c9, hf⟩ := gd_s hf
        refine aldB hx hb hK hP 2 2 rfl rfl c9 dX4_years_29 (fun c10 => ?_) (fun c10 => ?_)
        · have hf := it hf c10
          refine lv_astore (lv' := [(8, .ref (ab x3.toNatClampNeg)), (0, .ref qk), (1, .long x1), (3, .long x2), (5, .ref qb), (6, .int 10), (7, .int x3)]) hx hb dX4_years_30 hl (by decide) rfl (fun ls hl => ?_)
          refine lv_aload hx hb dX4_years_32 (lv_at hl 0 rfl) ?_
          refine lv_ifnull hx hb dX4_years_34 ?_
          refine lv_aload hx hb dX4_years_37 (lv_at hl 0 rfl) ?_
          refine va_get (D := D) (ci := 0) (v := .int ((bB x3.toNatClampNeg) 4)) (C := RX0) (T := TX0) (N := 9) hx hb hts inX4_years_X0 hown hK (hB x3.toNatClampNeg c10) 2 rfl rfl 4 (by decide) (hts (.fieldLink RX4 244 "BondDesk$Bond" "pieces" "I") (by decide +kernel)) (fun _ h9 => h9) rfl dX4_years_39 ?_
          refine lv_i2l hx hb dX4_years_42 rfl ?_
          refine lv_aload hx hb dX4_years_43 (lv_at hl 0 rfl) ?_
          obtain ⟨v11, hv11, hf⟩ := ob hf
          refine cSl (W.runV (As := []) (rest := [.long (((bB x3.toNatClampNeg) 4).toInt64)]) ⟨hx, hb, hml, hown, hts⟩ (m_X0_face l D cI cJ cO ah (ab x3.toNatClampNeg) (as_ x3.toNatClampNeg) (ad x3.toNatClampNeg) (bB x3.toNatClampNeg) (bS x3.toNatClampNeg) (bT x3.toNatClampNeg) (bn x3.toNatClampNeg) (bds x3.toNatClampNeg) v11 hv11) (cwV 0 hts gX4_years_X0_face rfl rfl rfl (by decide +kernel) ⟨(Nat.le_of_ble_eq_true rfl), (Nat.le_of_ble_eq_true rfl)⟩) ⟨pw_blind, va_recv hK (hB x3.toNatClampNeg c10) (ci := 0) (q0 := 2) rfl rfl, fun U hU hW => ⟨rfl, pw_at hZ va_S.rf (hB x3.toNatClampNeg c10) hK hU hW (Or.inr rfl) [0, 1, 2] rfl⟩⟩ rfl rfl hl.1 rfl (lv_room (Nat.le_of_ble_eq_true rfl)) dX4_years_45 ⟨(Nat.le_of_ble_eq_true rfl), (Nat.le_of_ble_eq_true rfl)⟩) ?_
          refine lv_lmul hx hb dX4_years_48 ?_
          refine lv_topl (fun x12 ex12 => ?_)
          have hf := bd_s hf ex12
          refine lv_lstore (lv' := [(9, .long x12), (8, .ref (ab x3.toNatClampNeg)), (0, .ref qk), (1, .long x1), (3, .long x2), (5, .ref qb), (6, .int 10), (7, .int x3)]) hx hb dX4_years_49 hl (by decide) rfl (fun ls hl => ?_)
          refine lv_lload_n hx hb dX4_years_51 rfl (lv_at hl 3 rfl) ?_
          refine lv_lload hx hb dX4_years_52 (lv_at hl 0 rfl) ?_
          refine lv_ladd hx hb dX4_years_54 ?_
          refine lv_topl (fun x13 ex13 => ?_)
          have hf := bd_s hf ex13
          refine lv_lstore_n (lv' := [(1, .long x13), (9, .long x12), (8, .ref (ab x3.toNatClampNeg)), (0, .ref qk), (3, .long x2), (5, .ref qb), (6, .int 10), (7, .int x3)]) hx hb dX4_years_55 rfl hl (by decide) rfl (fun ls hl => ?_)
          refine lv_lload_n hx hb dX4_years_56 rfl (lv_at hl 4 rfl) ?_
          refine lv_lload hx hb dX4_years_57 (lv_at hl 1 rfl) ?_
          refine lv_aload_n hx hb dX4_years_59 rfl (lv_at hl 3 rfl) ?_
          refine va_get (D := D) (ci := 3) (v := .int (K 5)) (C := RX4) (T := TX4) (N := 8) hx hb hts inX4_years_X4 hown hK hP 0 rfl rfl 5 (by decide) (hts (.fieldLink RX4 27 "BondDesk" "today" "I") (by decide +kernel)) (fun _ h9 => h9) rfl dX4_years_60 ?_
          refine lv_aload hx hb dX4_years_63 (lv_at hl 2 rfl) ?_
          refine va_get (D := D) (ci := 0) (v := .ref (as_ x3.toNatClampNeg)) (C := RX0) (T := TX0) (N := 9) hx hb hts inX4_years_X0 hown hK (hB x3.toNatClampNeg c10) 2 rfl rfl 0 (by decide) (hts (.fieldLink RX4 141 "BondDesk$Bond" "schedule" "LBondDesk$Schedule;") (by decide +kernel)) (fun _ h9 => h9) rfl dX4_years_65 ?_
          refine va_get (D := D) (ci := 2) (v := .int ((bS x3.toNatClampNeg) 1)) (C := RX3) (T := TX3) (N := 9) hx hb hts inX4_years_X3 hown hK (hB x3.toNatClampNeg c10) 1 rfl rfl 1 (by decide) (hts (.fieldLink RX4 294 "BondDesk$Schedule" "end" "I") (by decide +kernel)) (fun _ h9 => h9) rfl dX4_years_68 ?_
          obtain ⟨v14, hv14, hf⟩ := ob hf
          refine cSi (W.runS (As := [.int (K 5), .int ((bS x3.toNatClampNeg) 1)]) (rest := [.long x12, .long x2]) ⟨hx, hb, hml, hown, hts⟩ (m_X1_daysBetween l D cI cJ cO ah (K 5) ((bS x3.toNatClampNeg) 1) v14 hv14) (va_cwS 2 hts gX4_years_X1_daysBetween rfl rfl rfl (by decide +kernel) ⟨(Nat.le_of_ble_eq_true rfl), (Nat.le_of_ble_eq_true rfl)⟩) ⟨pw_blind, fun U hU hW => ⟨rfl, pw_at hZ va_S.rf hP hK hU hW (Or.inr rfl) [] rfl⟩⟩ rfl rfl hl.1 rfl (lv_room (Nat.le_of_ble_eq_true rfl)) dX4_years_71 ⟨(Nat.le_of_ble_eq_true rfl), (Nat.le_of_ble_eq_true rfl)⟩) ?_
          refine lv_i2l hx hb dX4_years_74 rfl ?_
          refine lv_lmul hx hb dX4_years_75 ?_
          refine lv_ladd hx hb dX4_years_76 ?_
          refine lv_topl (fun x15 ex15 => ?_)
          have hf := bd_s hf ex15
          refine lv_lstore_n (lv' := [(3, .long x15), (1, .long x13), (9, .long x12), (8, .ref (ab x3.toNatClampNeg)), (0, .ref qk), (5, .ref qb), (6, .int 10), (7, .int x3)]) hx hb dX4_years_77 rfl hl (by decide) rfl (fun ls hl => ?_)
          obtain ⟨x16, ex16⟩ : ∃ y : Int32, y = x3 + 1 := ⟨_, rfl⟩
          have hf := bd_s hf ex16
          refine lv_iinc (v := x16) (lv' := [(7, .int x16), (3, .long x15), (1, .long x13), (9, .long x12), (8, .ref (ab x3.toNatClampNeg)), (0, .ref qk), (5, .ref qb), (6, .int 10)]) hx hb dX4_years_78 hl (k := 7) rfl (by rw [ex16]; rfl) (by decide) rfl (fun ls hl => ?_)
          refine lv_goto (tgt := 18) hx hb dX4_years_81 (by decide) ?_
          exact ih7 x13 x15 x16 ls (lv_sub hl [5, 2, 1, 6, 7, 0] rfl) hf
        · have hf := ie hf c10
          refine lv_astoreN (lv' := [(8, .null), (0, .ref qk), (1, .long x1), (3, .long x2), (5, .ref qb), (6, .int 10), (7, .int x3)]) hx hb dX4_years_30 hl (by decide) rfl (fun ls hl => ?_)
          refine lv_aloadN hx hb dX4_years_32 (lv_at hl 0 rfl) ?_
          refine lv_ifnullN (tgt := 78) hx hb dX4_years_34 (by decide) ?_
          obtain ⟨x17, ex17⟩ : ∃ y : Int32, y = x3 + 1 := ⟨_, rfl⟩
          have hf := bd_s hf ex17
          refine lv_iinc (v := x17) (lv' := [(7, .int x17), (8, .null), (0, .ref qk), (1, .long x1), (3, .long x2), (5, .ref qb), (6, .int 10)]) hx hb dX4_years_78 hl (k := 6) rfl (by rw [ex17]; rfl) (by decide) rfl (fun ls hl => ?_)
          refine lv_goto (tgt := 18) hx hb dX4_years_81 (by decide) ?_
          exact ih7 x1 x2 x17 ls (lv_sub hl [2, 3, 4, 5, 6, 0] rfl) hf
  exact LP18 N 0 0 0 ls (lv_sub hl [5, 4, 3, 2, 1, 0] rfl) hf
theorem inX5_years_X5 : ∀ w ∈ wsX50, w ∈ wsX5_years := by decide +kernel
set_option maxHeartbeats 4000000 in
set_option maxRecDepth 100000 in
theorem m_X5_years (l : Launch) (D : va_G) (cI cJ cO : ClassId) (hm : Nat) (mh : Nat) (mo : Nat) (my : Nat) (mp : Nat) (M : Nat → Int32) (mc : Int64) (mhol : Nat → Int32) (mof : Nat → Int32) (mdy : Nat → Int32) (mpd : Nat → Int64) (sz : Nat) (N : Nat) (r : UInt64 × (Nat → Int32)) (hf : f_X5_years N M mof = some r) : Met l yX5_years wsX5_years ({ frames := 1, cells := 0, slots := 0, locals := 22 }) (va_Pc [.ref hm] (mP D (ty3 cI cJ cO) none [eM hm mh mo my mp M mc, eH cI mh mhol, eO cI mo mof, eY cI my mdy, eP cJ mp mpd] sz)) (mQd D (va_A [eM hm mh mo my mp M mc, eH cI mh mhol, eO cI mo mof, eY cI my mdy, eP cJ mp mpd] sz) r.1 [eM hm mh mo my mp r.2 mc, eH cI mh mhol, eO cI mo mof, eY cI my mdy, eP cJ mp mpd]) 0 0 (va_A [eM hm mh mo my mp M mc, eH cI mh mhol, eO cI mo mof, eY cI my mdy, eP cJ mp mpd] sz) := by
  refine Met.ofW (cc := cX5_years) (maxL := 8) (ret := (some .double)) (by decide) rfl ?_
  intro p e s m args below meth c s₁ Bd hml hv
  obtain ⟨rfl, hsz, hZ, hP, hK, hD0⟩ := hv
  have hx := Bd.exec
  have hb := Bd.bytes
  have hr := Bd.returns
  have hts := atoms_spec (ws := wsX5_years) Bd.pre
  have hown : s.vm.findClass RX5 = some m.cls := findClass_of_methodNamed Bd.named
  have hlocks := Bd.notSynchronized
  subst hsz
  have hD := hD0.self (sz := s.heap.size)
  generalize hAe : va_A [eM hm mh mo my mp M mc, eH cI mh mhol, eO cI mo mof, eY cI my mdy, eP cJ mp mpd] s.heap.size = A at hD hZ ⊢
  have hA : ∀ q : Nat, s.heap.size ≤ q → A q := fun q h => by rw [← hAe]; exact Or.inr h
  have hS : va_S A s.heap s.heap [] := va_S.rf
  have hl := lv_entry ([.ref hm]) (n := 8) (Nat.le_of_ble_eq_true rfl)
  rw [lg_entry_eq]
  generalize (lg_sl ([.ref hm]) ++ List.replicate (8 - (lg_sl ([.ref hm])).length) Slot.unset).toArray = ls at hl ⊢
  have hl : lv_has ls 8 [(0, .ref hm)] := hl
  unfold f_X5_years at hf
  refine lv_aload_n hx hb dX5_years_0 rfl (lv_at hl 0 rfl) ?_
  refine lv_iconst (v := 0) hx hb dX5_years_1 (by decide) ?_
  refine va_put (D := D) (ci := 4) (v := .int 0) (ty := .int) (C := RX5) (T := TX5) (N := 10) hx hb hts inX5_years_X5 tyX5 tyX5_ok nmX5 hown hK hP hD hS 0 rfl rfl 0 (by decide) (hts (.fieldLink RX5 41 "BondDeskModel" "thrown" "I") (by decide +kernel)) (fun _ h9 => h9) rfl (by decide +kernel) rfl rfl (Nat.le_of_ble_eq_true rfl) dX5_years_2 (fun H locs hP hD hS => ?_)
  have hP : va_P D vwCl [eM hm mh mo my mp (va_up M 0 (0 : Int32)) mc, eH cI mh mhol, eO cI mo mof, eY cI my mdy, eP cJ mp mpd] H := hP
  have hD : va_D A [eM hm mh mo my mp (va_up M 0 (0 : Int32)) mc, eH cI mh mhol, eO cI mo mof, eY cI my mdy, eP cJ mp mpd] := hD
  refine lv_lconst (v := 0) hx hb dX5_years_5 (by decide) ?_
  refine lv_lstore_n (lv' := [(1, .long 0), (0, .ref hm)]) hx hb dX5_years_6 rfl hl (by decide) rfl (fun ls hl => ?_)
  refine lv_lconst (v := 0) hx hb dX5_years_7 (by decide) ?_
  refine lv_lstore_n (lv' := [(3, .long 0), (1, .long 0), (0, .ref hm)]) hx hb dX5_years_8 rfl hl (by decide) rfl (fun ls hl => ?_)
  refine lv_iconst (v := 0) hx hb dX5_years_9 (by decide) ?_
  refine lv_istore (lv' := [(5, .int 0), (3, .long 0), (1, .long 0), (0, .ref hm)]) hx hb dX5_years_10 hl (by decide) rfl (fun ls hl => ?_)
  obtain ⟨K4, hK4, hf⟩ := kx_s (P := fun k => f_X5_years_L12 M mof k N 0 0 0 = some r) hf
  have JK4 : ∀ (x5 : Int64) (x6 : Int64) (ls : Array Slot), lv_has ls 8 [(1, .long x5), (3, .long x6)] → K4 x5 x6 = some r → W p l e (headSpec wsX5_years ({ frames := 1, cells := 0, slots := 0, locals := 22 })).room s m ([.ref hm] : List Value).toArray below meth c H locs 0 0 (MQ below (mQd D A r.1 [eM hm mh mo my mp r.2 mc, eH cI mh mhol, eO cI mo mof, eY cI my mdy, eP cJ mp mpd]) ([.ref hm] : List Value).toArray s 0 0 A) (F0 m 75 ls []) := by
    intro x5 x6 ls hl hf
    rw [hK4] at hf
    refine lv_lload_n hx hb dX5_years_75 rfl (lv_at hl 0 rfl) ?_
    refine lv_lconst (v := 0) hx hb dX5_years_76 (by decide) ?_
    refine W.lcmp hx hb dX5_years_77 ?_
    refine lv_if_ne (tgt := 85) hx hb dX5_years_78 (by decide) (fun c16 => ?_) (fun c16 => ?_)
    · have hf := ie hf c16
      refine lv_lload_n hx hb dX5_years_85 rfl (lv_at hl 1 rfl) ?_
      refine lv_l2d hx hb dX5_years_86 ?_
      refine lv_lload_n hx hb dX5_years_87 rfl (lv_at hl 0 rfl) ?_
      refine lv_l2d hx hb dX5_years_88 ?_
      obtain ⟨c17, hf⟩ := gd_s hf
      refine lv_ddiv hx hb dX5_years_89 c17 ?_
      refine lv_ldc2d hx hb hown (hts (.constantDouble RX5 202 (4645128764097822720)) (by decide +kernel)) dX5_years_90 ?_
      obtain ⟨c18, hf⟩ := gd_s hf
      refine lv_ddiv hx hb dX5_years_93 c18 ?_
      refine W.widen (k := 0) (n := 0) (Nat.le_of_ble_eq_true rfl) (Nat.le_of_ble_eq_true rfl) ?_
      have e9 := Option.some.inj hf
      subst e9
      exact W.dret hx hb hr (fun t ht hW => ⟨⟨_, (), rfl, rfl, by rw [ht]; exact hP, hD⟩, hS.F ht⟩) hS.2.2 dX5_years_94
    · have hf := it hf c16
      refine lv_dconst0 hx hb dX5_years_81 ?_
      refine lv_goto (tgt := 94) hx hb dX5_years_82 (by decide) ?_
      refine W.widen (k := 0) (n := 0) (Nat.le_of_ble_eq_true rfl) (Nat.le_of_ble_eq_true rfl) ?_
      have e9 := Option.some.inj hf
      subst e9
      exact W.dret hx hb hr (fun t ht hW => ⟨⟨_, (), rfl, rfl, by rw [ht]; exact hP, hD⟩, hS.F ht⟩) hS.2.2 dX5_years_94
  have LP12 : ∀ (n7 : Nat) (x1 : Int64) (x2 : Int64) (x3 : Int32) (ls : Array Slot), lv_has ls 8 [(0, .ref hm), (1, .long x1), (3, .long x2), (5, .int x3)] → f_X5_years_L12 M mof K4 n7 x1 x2 x3 = some r → W p l e (headSpec wsX5_years ({ frames := 1, cells := 0, slots := 0, locals := 22 })).room s m ([.ref hm] : List Value).toArray below meth c H locs 0 0 (MQ below (mQd D A r.1 [eM hm mh mo my mp r.2 mc, eH cI mh mhol, eO cI mo mof, eY cI my mdy, eP cJ mp mpd]) ([.ref hm] : List Value).toArray s 0 0 A) (F0 m 12 ls []) := by
    intro n7
    induction n7 with
    | zero => intro x1 x2 x3 ls hl hf; exact (no_s hf).elim
    | succ n7 ih7 =>
      intro x1 x2 x3 ls hl hf
      rw [f_X5_years_L12] at hf
      refine lv_iload hx hb dX5_years_12 (lv_at hl 3 rfl) ?_
      refine lv_aload_n hx hb dX5_years_14 rfl (lv_at hl 0 rfl) ?_
      refine va_get (D := D) (ci := 4) (v := .int (M 4)) (C := RX5) (T := TX5) (N := 10) hx hb hts inX5_years_X5 hown hK hP 0 rfl rfl 4 (by decide) (hts (.fieldLink RX5 77 "BondDeskModel" "bonds" "I") (by decide +kernel)) (fun _ h9 => h9) rfl dX5_years_15 ?_
      refine lv_icmp_ge (tgt := 75) hx hb dX5_years_18 (by decide) (fun c8 => ?_) (fun c8 => ?_)
      · have hf := it hf c8
        exact JK4 x1 x2 ls (lv_sub hl [1, 2] rfl) hf
      · have hf := ie hf c8
        refine lv_ldc2 hx hb hown (hts (.constantLong RX5 159 (10)) (by decide +kernel)) dX5_years_21 ?_
        refine lv_aload_n hx hb dX5_years_24 rfl (lv_at hl 0 rfl) ?_
        refine lv_iload hx hb dX5_years_25 (lv_at hl 3 rfl) ?_
        refine lv_iconst (v := 5) hx hb dX5_years_27 (by decide) ?_
        obtain ⟨v9, hv9, hf⟩ := ob hf
        refine cSi (W.runV (As := [.int x3, .int 5]) (rest := [.long 10]) ⟨hx, hb, hml, hown, hts⟩ (m_X5_own l D cI cJ cO hm mh mo my mp (va_up M 0 (0 : Int32)) mc mhol mof mdy mpd x3 5 v9 hv9) (cwV 2 hts gX5_years_X5_own rfl rfl rfl (by decide +kernel) ⟨(Nat.le_of_ble_eq_true rfl), (Nat.le_of_ble_eq_true rfl)⟩) ⟨pw_blind, va_recv hK hP (ci := 4) (q0 := 0) rfl rfl, fun U hU hW => ⟨rfl, pw_at hZ hS hP hK hU hW (Or.inr rfl) [0, 1, 2, 3, 4] rfl⟩⟩ rfl rfl hl.1 rfl (lv_room (Nat.le_of_ble_eq_true rfl)) dX5_years_28 ⟨(Nat.le_of_ble_eq_true rfl), (Nat.le_of_ble_eq_true rfl)⟩) ?_
        refine lv_i2l hx hb dX5_years_31 rfl ?_
        refine lv_lmul hx hb dX5_years_32 ?_
        refine lv_aload_n hx hb dX5_years_33 rfl (lv_at hl 0 rfl) ?_
        refine lv_iload hx hb dX5_years_34 (lv_at hl 3 rfl) ?_
        refine lv_bipush (v := 9) hx hb dX5_years_36 (by decide) ?_
        obtain ⟨v10, hv10, hf⟩ := ob hf
        refine cSi (W.runV (As := [.int x3, .int 9]) (rest := [.long (10 * v9.toInt64)]) ⟨hx, hb, hml, hown, hts⟩ (m_X5_own l D cI cJ cO hm mh mo my mp (va_up M 0 (0 : Int32)) mc mhol mof mdy mpd x3 9 v10 hv10) (cwV 2 hts gX5_years_X5_own rfl rfl rfl (by decide +kernel) ⟨(Nat.le_of_ble_eq_true rfl), (Nat.le_of_ble_eq_true rfl)⟩) ⟨pw_blind, va_recv hK hP (ci := 4) (q0 := 0) rfl rfl, fun U hU hW => ⟨rfl, pw_at hZ hS hP hK hU hW (Or.inr rfl) [0, 1, 2, 3, 4] rfl⟩⟩ rfl rfl hl.1 rfl (lv_room (Nat.le_of_ble_eq_true rfl)) dX5_years_38 ⟨(Nat.le_of_ble_eq_true rfl), (Nat.le_of_ble_eq_true rfl)⟩) ?_
        refine lv_i2l hx hb dX5_years_41 rfl ?_
        refine lv_lmul hx hb dX5_years_42 ?_
        refine lv_topl (fun x11 ex11 => ?_)
        have hf := bd_s hf ex11
        refine lv_lstore (lv' := [(6, .long x11), (0, .ref hm), (1, .long x1), (3, .long x2), (5, .int x3)]) hx hb dX5_years_43 hl (by decide) rfl (fun ls hl => ?_)
        refine lv_lload_n hx hb dX5_years_45 rfl (lv_at hl 2 rfl) ?_
        refine lv_lload hx hb dX5_years_46 (lv_at hl 0 rfl) ?_
        refine lv_ladd hx hb dX5_years_48 ?_
        refine lv_topl (fun x12 ex12 => ?_)
        have hf := bd_s hf ex12
        refine lv_lstore_n (lv' := [(1, .long x12), (6, .long x11), (0, .ref hm), (3, .long x2), (5, .int x3)]) hx hb dX5_years_49 rfl hl (by decide) rfl (fun ls hl => ?_)
        refine lv_lload_n hx hb dX5_years_50 rfl (lv_at hl 3 rfl) ?_
        refine lv_lload hx hb dX5_years_51 (lv_at hl 1 rfl) ?_
        refine lv_aload_n hx hb dX5_years_53 rfl (lv_at hl 2 rfl) ?_
        refine lv_iload hx hb dX5_years_54 (lv_at hl 4 rfl) ?_
        refine lv_iconst (v := 1) hx hb dX5_years_56 (by decide) ?_
        obtain ⟨v13, hv13, hf⟩ := ob hf
        refine cSi (W.runV (As := [.int x3, .int 1]) (rest := [.long x11, .long x2]) ⟨hx, hb, hml, hown, hts⟩ (m_X5_own l D cI cJ cO hm mh mo my mp (va_up M 0 (0 : Int32)) mc mhol mof mdy mpd x3 1 v13 hv13) (cwV 2 hts gX5_years_X5_own rfl rfl rfl (by decide +kernel) ⟨(Nat.le_of_ble_eq_true rfl), (Nat.le_of_ble_eq_true rfl)⟩) ⟨pw_blind, va_recv hK hP (ci := 4) (q0 := 0) rfl rfl, fun U hU hW => ⟨rfl, pw_at hZ hS hP hK hU hW (Or.inr rfl) [0, 1, 2, 3, 4] rfl⟩⟩ rfl rfl hl.1 rfl (lv_room (Nat.le_of_ble_eq_true rfl)) dX5_years_57 ⟨(Nat.le_of_ble_eq_true rfl), (Nat.le_of_ble_eq_true rfl)⟩) ?_
        refine lv_aload_n hx hb dX5_years_60 rfl (lv_at hl 2 rfl) ?_
        refine va_get (D := D) (ci := 4) (v := .int (M 1)) (C := RX5) (T := TX5) (N := 10) hx hb hts inX5_years_X5 hown hK hP 0 rfl rfl 1 (by decide) (hts (.fieldLink RX5 14 "BondDeskModel" "today" "I") (by decide +kernel)) (fun _ h9 => h9) rfl dX5_years_61 ?_
        refine lv_isub hx hb dX5_years_64 ?_
        refine lv_i2l hx hb dX5_years_65 rfl ?_
        refine lv_lmul hx hb dX5_years_66 ?_
        refine lv_ladd hx hb dX5_years_67 ?_
        refine lv_topl (fun x14 ex14 => ?_)
        have hf := bd_s hf ex14
        refine lv_lstore_n (lv' := [(3, .long x14), (1, .long x12), (6, .long x11), (0, .ref hm), (5, .int x3)]) hx hb dX5_years_68 rfl hl (by decide) rfl (fun ls hl => ?_)
        obtain ⟨x15, ex15⟩ : ∃ y : Int32, y = x3 + 1 := ⟨_, rfl⟩
        have hf := bd_s hf ex15
        refine lv_iinc (v := x15) (lv' := [(5, .int x15), (3, .long x14), (1, .long x12), (6, .long x11), (0, .ref hm)]) hx hb dX5_years_69 hl (k := 4) rfl (by rw [ex15]; rfl) (by decide) rfl (fun ls hl => ?_)
        refine lv_goto (tgt := 12) hx hb dX5_years_72 (by decide) ?_
        exact ih7 x12 x14 x15 ls (lv_sub hl [4, 2, 1, 0] rfl) hf
  exact LP12 N 0 0 0 ls (lv_sub hl [3, 2, 1, 0] rfl) hf
