/-! the law's cases (printed by gen5.py) -/
set_option maxHeartbeats 4000000 in
set_option maxRecDepth 100000 in
theorem lc_later {p : Program} {l : Launch} {e : Env} {s : State} {m : MethodId} {below : List Frame} {meth : Method} {c : Code} {b L : Nat} {xs : Nat → Int32} {D : va_G} {cI cJ cO : ClassId} {ah : Nat} (E : LE p s l m meth c b L xs D cI cJ cO ah) {Q : State → Prop} {N : Nat} {qk qo hm : Nat} {i : Int32} (hi : ∀ k : Int32, k ∈ [1, 2, 3, 4, 5] → vp_in (i + k) L) {cells slots : Nat} (hc : cells + 9 ≤ 601024) (hs : slots + 182 ≤ 7293034) {H : Heap} {locs : List Loc} {z : AZ} {f : Nat → Int64} {g : SG} {y : Nat × Nat × Nat × Nat} {μ : SM} (hP : va_P D vwCl (WL cI cJ cO qk qo hm z f g y μ) H) (hD : va_D (fun q => s.heap.size ≤ q) (WL cI cJ cO qk qo hm z f g y μ)) (hS : va_S (fun q => s.heap.size ≤ q) s.heap H locs) {ls : Array Slot} (hl : lv_has ls 9 [(4, .int i), (0, .ref b), (1, .ref qk), (2, .ref hm), (3, .ref qo)]) {R : (Int32 × SG) ⊕ String} {r : Int32 × SM} (hk : k_later N g (xs (i + 1).toNatClampNeg) (xs (i + 2).toNatClampNeg) = some R) (hm5 : q_later N μ (xs (i + 1).toNatClampNeg) (xs (i + 2).toNatClampNeg) = some r) (hE0 : ∀ E, R = .inr E → E ∈ ["java/lang/IllegalArgumentException"]) (ha : r.2.1 0 = kR ["java/lang/IllegalArgumentException"] R) (hv : ∀ u, R = .inl u → u.1.toInt64 = r.1.toInt64) (kk : ∀ (z1 : AZ) (f1 : Nat → Int64) (H1 : Heap) (locs1 : List Loc) (ls1 : Array Slot), va_P D vwCl (WL cI cJ cO qk qo hm z1 f1 (gR g R) y r.2) H1 → va_D (fun q => s.heap.size ≤ q) (WL cI cJ cO qk qo hm z1 f1 (gR g R) y r.2) → va_S (fun q => s.heap.size ≤ q) s.heap H1 locs1 → lv_has ls1 9 [(4, .int i), (0, .ref b), (1, .ref qk), (2, .ref hm), (3, .ref qo)] → W p l e room_1 s m #[.ref b] below meth c H1 locs1 (cells + 2) (slots + 12) Q (F0 m 1686 ls1 [])) : W p l e room_1 s m #[.ref b] below meth c H locs cells slots Q (F0 m 152 ls []) := by
  obtain ⟨hx, hb, hml, hown, hts, hX, hbl, hK, hZ, hT, hNc, hl0⟩ := E
  have hA : ∀ q : Nat, s.heap.size ≤ q → (fun q : Nat => s.heap.size ≤ q) q := fun _ h => h
  have hbA : ¬ (fun q : Nat => s.heap.size ≤ q) b := Nat.not_le.mpr hbl
  refine lv_aload_n hx hb dL_law_152 rfl (lv_at hl 2 rfl) ?_
  refine lv_aload_n hx hb dL_law_153 rfl (lv_at hl 1 rfl) ?_
  refine lv_iload hx hb dL_law_154 (lv_at hl 0 rfl) ?_
  refine lv_iconst (v := 1) hx hb dL_law_156 (by decide) ?_
  refine lv_iadd hx hb dL_law_157 ?_
  refine va_sld hx hb hX hbl hbA hS (hi 1 (by decide)) dL_law_158 ?_
  refine lv_aload_n hx hb dL_law_159 rfl (lv_at hl 1 rfl) ?_
  refine lv_iload hx hb dL_law_160 (lv_at hl 0 rfl) ?_
  refine lv_iconst (v := 2) hx hb dL_law_162 (by decide) ?_
  refine lv_iadd hx hb dL_law_163 ?_
  refine va_sld hx hb hX hbl hbA hS (hi 2 (by decide)) dL_law_164 ?_
  refine lv_aload_n hx hb dL_law_165 rfl (lv_at hl 4 rfl) ?_
  have hPx := wp_l hP
  have hDx := wd_l hD
  have hFx : ∀ q, va_A (XW cI cJ cO qk qo z f g) H.size q → s.heap.size ≤ q := va_A_of hDx hS hA
  refine xH (vx_runSW (As := [.ref qk, .int (xs (i + 1).toNatClampNeg), .int (xs (i + 2).toNatClampNeg), .ref qo]) (rest := []) ⟨hx, hb, hml, hown, hts⟩ (h_later l D cI cJ cO ah qk qo f z g H.size N (xs (i + 1).toNatClampNeg) (xs (i + 2).toNatClampNeg) R hl0 hk hE0) (vx_cwSW 4 hts gL_law_L_later rfl rfl rfl (by decide +kernel) ⟨(Nat.le_of_ble_eq_true rfl), (Nat.le_of_ble_eq_true rfl)⟩) ⟨hp_blind, fun U hU hW => ⟨rfl, ⟨mp_at hZ hS hPx hK hDx hFx hU hW (Or.inr rfl), by rw [hU]; exact px_at hT hS hW hFx⟩, ncs_moved hW.alike hNc⟩⟩ rfl rfl hl.1 rfl (lv_room (Nat.le_of_ble_eq_true rfl)) dL_law_166 ⟨(by show cells + 2 ≤ 601024; omega), (by show slots + 12 ≤ 7293034; omega)⟩) hS hFx (fun z1 f1 H1 locs1 hf1 hP1 hD1 hz1 hk1 hS1 => ?_)
  obtain ⟨hP, hD⟩ := wj hP hD (fun q h => Nat.le_trans hS.1 h) hP1 hD1 hk1
  have hS := hS1
  have hS0 := hS1
  obtain ⟨kv, ekv⟩ : ∃ v, v = kR ["java/lang/IllegalArgumentException"] R := ⟨_, rfl⟩
  rw [← ekv]
  refine lv_istore (lv' := [(5, .int kv), (4, .int i), (0, .ref b), (1, .ref qk), (2, .ref hm), (3, .ref qo)]) hx hb dL_law_169 hl (by decide) rfl (fun ls hl => ?_)
  refine lv_aload_n hx hb dL_law_171 rfl (lv_at hl 4 rfl) ?_
  refine lv_aload_n hx hb dL_law_172 rfl (lv_at hl 2 rfl) ?_
  refine lv_iload hx hb dL_law_173 (lv_at hl 1 rfl) ?_
  refine lv_iconst (v := 1) hx hb dL_law_175 (by decide) ?_
  refine lv_iadd hx hb dL_law_176 ?_
  refine va_sld hx hb hX hbl hbA hS (hi 1 (by decide)) dL_law_177 ?_
  refine lv_aload_n hx hb dL_law_178 rfl (lv_at hl 2 rfl) ?_
  refine lv_iload hx hb dL_law_179 (lv_at hl 1 rfl) ?_
  refine lv_iconst (v := 2) hx hb dL_law_181 (by decide) ?_
  refine lv_iadd hx hb dL_law_182 ?_
  refine va_sld hx hb hX hbl hbA hS (hi 2 (by decide)) dL_law_183 ?_
  have hPy := wp_r hP
  have hDy := wd_r hD
  have hFy : ∀ q, va_A (YW cI cJ hm y μ) H1.size q → s.heap.size ≤ q := va_A_of hDy hS hA
  refine va_calli (va_runV (As := [.int (xs (i + 1).toNatClampNeg), .int (xs (i + 2).toNatClampNeg)]) (rest := []) ⟨hx, hb, hml, hown, hts⟩ (v_later l D cI cJ cO hm y μ H1.size N (xs (i + 1).toNatClampNeg) (xs (i + 2).toNatClampNeg) r hm5) (cwV 2 hts gL_law_X5_later rfl rfl rfl (by decide +kernel) ⟨(Nat.le_of_ble_eq_true rfl), (Nat.le_of_ble_eq_true rfl)⟩) ⟨mp_blind, va_recv hK hPy (ci := 4) (q0 := 0) rfl rfl, fun U hU hW => ⟨rfl, mp_at hZ hS hPy hK hDy hFy hU hW (Or.inl rfl)⟩⟩ rfl rfl hl.1 rfl (lv_room (Nat.le_of_ble_eq_true rfl)) dL_law_184 ⟨(by show cells + 2 + 0 ≤ 601024; omega), (by show slots + 12 + 0 ≤ 7293034; omega)⟩) hS (fun q _ h => hFy q h) hFy (fun rv u5 t H2 locs2 ht9 hvm hw hBx hz2 hk2 hS => ?_)
  subst hw
  obtain ⟨hP2, hD2⟩ := hBx
  rw [ht9] at hP2
  obtain ⟨hP, hD⟩ := wjr hP hD (fun q h => Nat.le_trans hS0.1 h) hP2 hD2 hk2
  refine lv_istore (lv' := [(6, .int r.1), (5, .int kv), (4, .int i), (0, .ref b), (1, .ref qk), (2, .ref hm), (3, .ref qo)]) hx hb dL_law_187 hl (by decide) rfl (fun ls hl => ?_)
  refine lv_aload_n hx hb dL_law_189 rfl (lv_at hl 5 rfl) ?_
  have hPy := wp_r hP
  refine cSi (W.runV (As := []) (rest := []) ⟨hx, hb, hml, hown, hts⟩ (m_X5_thrown l D cI cJ cO hm y.1 y.2.1 y.2.2.1 y.2.2.2 r.2.1 r.2.2.1 r.2.2.2.1 r.2.2.2.2.1 r.2.2.2.2.2.1 r.2.2.2.2.2.2 (r.2.1 0) rfl) (cwV 0 hts gL_law_X5_thrown rfl rfl rfl (by decide +kernel) ⟨(Nat.le_of_ble_eq_true rfl), (Nat.le_of_ble_eq_true rfl)⟩) ⟨pw_blind, va_recv hK hPy (ci := 4) (q0 := 0) rfl rfl, fun U hU hW => ⟨rfl, pw_at hZ hS hPy hK hU hW (Or.inl rfl) [0, 1, 2, 3, 4] rfl⟩⟩ rfl rfl hl.1 rfl (lv_room (Nat.le_of_ble_eq_true rfl)) dL_law_190 ⟨(by show cells + 2 ≤ 601024; omega), (by show slots + 12 ≤ 7293034; omega)⟩) ?_
  refine lv_iload hx hb dL_law_193 (lv_at hl 1 rfl) ?_
  refine lv_icmp_eq (tgt := 200) hx hb dL_law_195 (by decide) (fun _ => ?_) (fun c0 => absurd (ha.trans ekv.symm) c0)
  refine lv_iload hx hb dL_law_200 (lv_at hl 1 rfl) ?_
  refine lv_if_ne (tgt := 217) hx hb dL_law_202 (by decide) (fun _ => ?_) (fun c0 => ?_)
  · refine lv_goto (tgt := 1686) hx hb dL_law_217 (by decide) ?_
    exact kk _ _ _ _ _ hP hD hS (lv_sub hl [2, 3, 4, 5, 6] rfl)
  · rcases hR : R with u | E0
    · have hfv := hf1 u hR
      have hve := hv u hR
      have hPx := wp_l hP
      refine lv_aload_n hx hb dL_law_205 rfl (lv_at hl 6 rfl) ?_
      refine lv_iconst (v := 0) hx hb dL_law_206 (by decide) ?_
      refine va_lald hx hb hK hPx 0 1 rfl rfl in01 dL_law_207 ?_
      refine lv_iload hx hb dL_law_208 (lv_at hl 0 rfl) ?_
      refine lv_i2l hx hb dL_law_210 rfl ?_
      refine W.lcmp hx hb dL_law_211 ?_
      refine lv_if_eq (tgt := 217) hx hb dL_law_212 (by decide) (fun _ => ?_) (fun c1 => absurd ((lg_cmp_eq _ _).mpr (hfv.trans hve)) c1)
      refine lv_goto (tgt := 1686) hx hb dL_law_217 (by decide) ?_
      exact kk _ _ _ _ _ hP hD hS (lv_sub hl [2, 3, 4, 5, 6] rfl)
    · have hm9 := hE0 E0 hR
      have h9 : kR ["java/lang/IllegalArgumentException"] R = 0 := ekv.symm.trans c0
      rw [hR] at h9
      simp only [List.mem_cons, List.not_mem_nil, or_false] at hm9
      subst hm9; exact absurd h9 (by decide)
set_option maxHeartbeats 4000000 in
set_option maxRecDepth 100000 in
theorem lc_weekday {p : Program} {l : Launch} {e : Env} {s : State} {m : MethodId} {below : List Frame} {meth : Method} {c : Code} {b L : Nat} {xs : Nat → Int32} {D : va_G} {cI cJ cO : ClassId} {ah : Nat} (E : LE p s l m meth c b L xs D cI cJ cO ah) {Q : State → Prop} {N : Nat} {qk qo hm : Nat} {i : Int32} (hi : ∀ k : Int32, k ∈ [1, 2, 3, 4, 5] → vp_in (i + k) L) {cells slots : Nat} (hc : cells + 9 ≤ 601024) (hs : slots + 182 ≤ 7293034) {H : Heap} {locs : List Loc} {z : AZ} {f : Nat → Int64} {g : SG} {y : Nat × Nat × Nat × Nat} {μ : SM} (hP : va_P D vwCl (WL cI cJ cO qk qo hm z f g y μ) H) (hD : va_D (fun q => s.heap.size ≤ q) (WL cI cJ cO qk qo hm z f g y μ)) (hS : va_S (fun q => s.heap.size ≤ q) s.heap H locs) {ls : Array Slot} (hl : lv_has ls 9 [(4, .int i), (0, .ref b), (1, .ref qk), (2, .ref hm), (3, .ref qo)]) {R : (Int32 × SG) ⊕ String} {r : Int32 × SM} (hk : k_weekday N g (xs (i + 1).toNatClampNeg) = some R) (hm5 : q_weekday N μ (xs (i + 1).toNatClampNeg) = some r) (hE0 : ∀ E, R = .inr E → E ∈ ["java/lang/IllegalArgumentException"]) (ha : r.2.1 0 = kR ["java/lang/IllegalArgumentException"] R) (hv : ∀ u, R = .inl u → u.1.toInt64 = r.1.toInt64) (kk : ∀ (z1 : AZ) (f1 : Nat → Int64) (H1 : Heap) (locs1 : List Loc) (ls1 : Array Slot), va_P D vwCl (WL cI cJ cO qk qo hm z1 f1 (gR g R) y r.2) H1 → va_D (fun q => s.heap.size ≤ q) (WL cI cJ cO qk qo hm z1 f1 (gR g R) y r.2) → va_S (fun q => s.heap.size ≤ q) s.heap H1 locs1 → lv_has ls1 9 [(4, .int i), (0, .ref b), (1, .ref qk), (2, .ref hm), (3, .ref qo)] → W p l e room_1 s m #[.ref b] below meth c H1 locs1 (cells + 1) (slots + 6) Q (F0 m 1686 ls1 [])) : W p l e room_1 s m #[.ref b] below meth c H locs cells slots Q (F0 m 220 ls []) := by
  obtain ⟨hx, hb, hml, hown, hts, hX, hbl, hK, hZ, hT, hNc, hl0⟩ := E
  have hA : ∀ q : Nat, s.heap.size ≤ q → (fun q : Nat => s.heap.size ≤ q) q := fun _ h => h
  have hbA : ¬ (fun q : Nat => s.heap.size ≤ q) b := Nat.not_le.mpr hbl
  refine lv_aload_n hx hb dL_law_220 rfl (lv_at hl 2 rfl) ?_
  refine lv_aload_n hx hb dL_law_221 rfl (lv_at hl 1 rfl) ?_
  refine lv_iload hx hb dL_law_222 (lv_at hl 0 rfl) ?_
  refine lv_iconst (v := 1) hx hb dL_law_224 (by decide) ?_
  refine lv_iadd hx hb dL_law_225 ?_
  refine va_sld hx hb hX hbl hbA hS (hi 1 (by decide)) dL_law_226 ?_
  refine lv_aload_n hx hb dL_law_227 rfl (lv_at hl 4 rfl) ?_
  have hPx := wp_l hP
  have hDx := wd_l hD
  have hFx : ∀ q, va_A (XW cI cJ cO qk qo z f g) H.size q → s.heap.size ≤ q := va_A_of hDx hS hA
  refine xH (vx_runSW (As := [.ref qk, .int (xs (i + 1).toNatClampNeg), .ref qo]) (rest := []) ⟨hx, hb, hml, hown, hts⟩ (h_weekday l D cI cJ cO ah qk qo f z g H.size N (xs (i + 1).toNatClampNeg) R hl0 hk hE0) (vx_cwSW 3 hts gL_law_L_weekday rfl rfl rfl (by decide +kernel) ⟨(Nat.le_of_ble_eq_true rfl), (Nat.le_of_ble_eq_true rfl)⟩) ⟨hp_blind, fun U hU hW => ⟨rfl, ⟨mp_at hZ hS hPx hK hDx hFx hU hW (Or.inr rfl), by rw [hU]; exact px_at hT hS hW hFx⟩, ncs_moved hW.alike hNc⟩⟩ rfl rfl hl.1 rfl (lv_room (Nat.le_of_ble_eq_true rfl)) dL_law_228 ⟨(by show cells + 1 ≤ 601024; omega), (by show slots + 6 ≤ 7293034; omega)⟩) hS hFx (fun z1 f1 H1 locs1 hf1 hP1 hD1 hz1 hk1 hS1 => ?_)
  obtain ⟨hP, hD⟩ := wj hP hD (fun q h => Nat.le_trans hS.1 h) hP1 hD1 hk1
  have hS := hS1
  have hS0 := hS1
  obtain ⟨kv, ekv⟩ : ∃ v, v = kR ["java/lang/IllegalArgumentException"] R := ⟨_, rfl⟩
  rw [← ekv]
  refine lv_istore (lv' := [(5, .int kv), (4, .int i), (0, .ref b), (1, .ref qk), (2, .ref hm), (3, .ref qo)]) hx hb dL_law_231 hl (by decide) rfl (fun ls hl => ?_)
  refine lv_aload_n hx hb dL_law_233 rfl (lv_at hl 4 rfl) ?_
  refine lv_aload_n hx hb dL_law_234 rfl (lv_at hl 2 rfl) ?_
  refine lv_iload hx hb dL_law_235 (lv_at hl 1 rfl) ?_
  refine lv_iconst (v := 1) hx hb dL_law_237 (by decide) ?_
  refine lv_iadd hx hb dL_law_238 ?_
  refine va_sld hx hb hX hbl hbA hS (hi 1 (by decide)) dL_law_239 ?_
  have hPy := wp_r hP
  have hDy := wd_r hD
  have hFy : ∀ q, va_A (YW cI cJ hm y μ) H1.size q → s.heap.size ≤ q := va_A_of hDy hS hA
  refine va_calli (va_runV (As := [.int (xs (i + 1).toNatClampNeg)]) (rest := []) ⟨hx, hb, hml, hown, hts⟩ (v_weekday l D cI cJ cO hm y μ H1.size N (xs (i + 1).toNatClampNeg) r hm5) (cwV 1 hts gL_law_X5_weekday_ rfl rfl rfl (by decide +kernel) ⟨(Nat.le_of_ble_eq_true rfl), (Nat.le_of_ble_eq_true rfl)⟩) ⟨mp_blind, va_recv hK hPy (ci := 4) (q0 := 0) rfl rfl, fun U hU hW => ⟨rfl, mp_at hZ hS hPy hK hDy hFy hU hW (Or.inl rfl)⟩⟩ rfl rfl hl.1 rfl (lv_room (Nat.le_of_ble_eq_true rfl)) dL_law_240 ⟨(by show cells + 1 + 0 ≤ 601024; omega), (by show slots + 6 + 0 ≤ 7293034; omega)⟩) hS (fun q _ h => hFy q h) hFy (fun rv u5 t H2 locs2 ht9 hvm hw hBx hz2 hk2 hS => ?_)
  subst hw
  obtain ⟨hP2, hD2⟩ := hBx
  rw [ht9] at hP2
  obtain ⟨hP, hD⟩ := wjr hP hD (fun q h => Nat.le_trans hS0.1 h) hP2 hD2 hk2
  refine lv_istore (lv' := [(6, .int r.1), (5, .int kv), (4, .int i), (0, .ref b), (1, .ref qk), (2, .ref hm), (3, .ref qo)]) hx hb dL_law_243 hl (by decide) rfl (fun ls hl => ?_)
  refine lv_aload_n hx hb dL_law_245 rfl (lv_at hl 5 rfl) ?_
  have hPy := wp_r hP
  refine cSi (W.runV (As := []) (rest := []) ⟨hx, hb, hml, hown, hts⟩ (m_X5_thrown l D cI cJ cO hm y.1 y.2.1 y.2.2.1 y.2.2.2 r.2.1 r.2.2.1 r.2.2.2.1 r.2.2.2.2.1 r.2.2.2.2.2.1 r.2.2.2.2.2.2 (r.2.1 0) rfl) (cwV 0 hts gL_law_X5_thrown rfl rfl rfl (by decide +kernel) ⟨(Nat.le_of_ble_eq_true rfl), (Nat.le_of_ble_eq_true rfl)⟩) ⟨pw_blind, va_recv hK hPy (ci := 4) (q0 := 0) rfl rfl, fun U hU hW => ⟨rfl, pw_at hZ hS hPy hK hU hW (Or.inl rfl) [0, 1, 2, 3, 4] rfl⟩⟩ rfl rfl hl.1 rfl (lv_room (Nat.le_of_ble_eq_true rfl)) dL_law_246 ⟨(by show cells + 1 ≤ 601024; omega), (by show slots + 6 ≤ 7293034; omega)⟩) ?_
  refine lv_iload hx hb dL_law_249 (lv_at hl 1 rfl) ?_
  refine lv_icmp_eq (tgt := 256) hx hb dL_law_251 (by decide) (fun _ => ?_) (fun c0 => absurd (ha.trans ekv.symm) c0)
  refine lv_iload hx hb dL_law_256 (lv_at hl 1 rfl) ?_
  refine lv_if_ne (tgt := 273) hx hb dL_law_258 (by decide) (fun _ => ?_) (fun c0 => ?_)
  · refine lv_goto (tgt := 1686) hx hb dL_law_273 (by decide) ?_
    exact kk _ _ _ _ _ hP hD hS (lv_sub hl [2, 3, 4, 5, 6] rfl)
  · rcases hR : R with u | E0
    · have hfv := hf1 u hR
      have hve := hv u hR
      have hPx := wp_l hP
      refine lv_aload_n hx hb dL_law_261 rfl (lv_at hl 6 rfl) ?_
      refine lv_iconst (v := 0) hx hb dL_law_262 (by decide) ?_
      refine va_lald hx hb hK hPx 0 1 rfl rfl in01 dL_law_263 ?_
      refine lv_iload hx hb dL_law_264 (lv_at hl 0 rfl) ?_
      refine lv_i2l hx hb dL_law_266 rfl ?_
      refine W.lcmp hx hb dL_law_267 ?_
      refine lv_if_eq (tgt := 273) hx hb dL_law_268 (by decide) (fun _ => ?_) (fun c1 => absurd ((lg_cmp_eq _ _).mpr (hfv.trans hve)) c1)
      refine lv_goto (tgt := 1686) hx hb dL_law_273 (by decide) ?_
      exact kk _ _ _ _ _ hP hD hS (lv_sub hl [2, 3, 4, 5, 6] rfl)
    · have hm9 := hE0 E0 hR
      have h9 : kR ["java/lang/IllegalArgumentException"] R = 0 := ekv.symm.trans c0
      rw [hR] at h9
      simp only [List.mem_cons, List.not_mem_nil, or_false] at hm9
      subst hm9; exact absurd h9 (by decide)
set_option maxHeartbeats 4000000 in
set_option maxRecDepth 100000 in
theorem lc_addHoliday {p : Program} {l : Launch} {e : Env} {s : State} {m : MethodId} {below : List Frame} {meth : Method} {c : Code} {b L : Nat} {xs : Nat → Int32} {D : va_G} {cI cJ cO : ClassId} {ah : Nat} (E : LE p s l m meth c b L xs D cI cJ cO ah) {Q : State → Prop} {N : Nat} {qk qo hm : Nat} {i : Int32} (hi : ∀ k : Int32, k ∈ [1, 2, 3, 4, 5] → vp_in (i + k) L) {cells slots : Nat} (hc : cells + 9 ≤ 601024) (hs : slots + 182 ≤ 7293034) {H : Heap} {locs : List Loc} {z : AZ} {f : Nat → Int64} {g : SG} {y : Nat × Nat × Nat × Nat} {μ : SM} (hP : va_P D vwCl (WL cI cJ cO qk qo hm z f g y μ) H) (hD : va_D (fun q => s.heap.size ≤ q) (WL cI cJ cO qk qo hm z f g y μ)) (hS : va_S (fun q => s.heap.size ≤ q) s.heap H locs) {ls : Array Slot} (hl : lv_has ls 9 [(4, .int i), (0, .ref b), (1, .ref qk), (2, .ref hm), (3, .ref qo)]) {R : (Int32 × SG) ⊕ String} {r : Int32 × SM} (hk : k_addHoliday N g (xs (i + 1).toNatClampNeg) = some R) (hm5 : q_addHoliday N μ (xs (i + 1).toNatClampNeg) = some r) (hE0 : ∀ E, R = .inr E → E ∈ ["java/lang/IllegalArgumentException", "java/lang/IllegalStateException"]) (ha : r.2.1 0 = kR ["java/lang/IllegalArgumentException", "java/lang/IllegalStateException"] R) (hv : ∀ u, R = .inl u → u.1.toInt64 = r.1.toInt64) (kk : ∀ (z1 : AZ) (f1 : Nat → Int64) (H1 : Heap) (locs1 : List Loc) (ls1 : Array Slot), va_P D vwCl (WL cI cJ cO qk qo hm z1 f1 (gR g R) y r.2) H1 → va_D (fun q => s.heap.size ≤ q) (WL cI cJ cO qk qo hm z1 f1 (gR g R) y r.2) → va_S (fun q => s.heap.size ≤ q) s.heap H1 locs1 → lv_has ls1 9 [(4, .int i), (0, .ref b), (1, .ref qk), (2, .ref hm), (3, .ref qo)] → W p l e room_1 s m #[.ref b] below meth c H1 locs1 (cells + 2) (slots + 12) Q (F0 m 1686 ls1 [])) : W p l e room_1 s m #[.ref b] below meth c H locs cells slots Q (F0 m 276 ls []) := by
  obtain ⟨hx, hb, hml, hown, hts, hX, hbl, hK, hZ, hT, hNc, hl0⟩ := E
  have hA : ∀ q : Nat, s.heap.size ≤ q → (fun q : Nat => s.heap.size ≤ q) q := fun _ h => h
  have hbA : ¬ (fun q : Nat => s.heap.size ≤ q) b := Nat.not_le.mpr hbl
  refine lv_aload_n hx hb dL_law_276 rfl (lv_at hl 2 rfl) ?_
  refine lv_aload_n hx hb dL_law_277 rfl (lv_at hl 1 rfl) ?_
  refine lv_iload hx hb dL_law_278 (lv_at hl 0 rfl) ?_
  refine lv_iconst (v := 1) hx hb dL_law_280 (by decide) ?_
  refine lv_iadd hx hb dL_law_281 ?_
  refine va_sld hx hb hX hbl hbA hS (hi 1 (by decide)) dL_law_282 ?_
  refine lv_aload_n hx hb dL_law_283 rfl (lv_at hl 4 rfl) ?_
  have hPx := wp_l hP
  have hDx := wd_l hD
  have hFx : ∀ q, va_A (XW cI cJ cO qk qo z f g) H.size q → s.heap.size ≤ q := va_A_of hDx hS hA
  refine xH (vx_runSW (As := [.ref qk, .int (xs (i + 1).toNatClampNeg), .ref qo]) (rest := []) ⟨hx, hb, hml, hown, hts⟩ (h_addHoliday l D cI cJ cO ah qk qo f z g H.size N (xs (i + 1).toNatClampNeg) R hl0 hk hE0) (vx_cwSW 3 hts gL_law_L_addHoliday rfl rfl rfl (by decide +kernel) ⟨(Nat.le_of_ble_eq_true rfl), (Nat.le_of_ble_eq_true rfl)⟩) ⟨hp_blind, fun U hU hW => ⟨rfl, ⟨mp_at hZ hS hPx hK hDx hFx hU hW (Or.inr rfl), by rw [hU]; exact px_at hT hS hW hFx⟩, ncs_moved hW.alike hNc⟩⟩ rfl rfl hl.1 rfl (lv_room (Nat.le_of_ble_eq_true rfl)) dL_law_284 ⟨(by show cells + 2 ≤ 601024; omega), (by show slots + 12 ≤ 7293034; omega)⟩) hS hFx (fun z1 f1 H1 locs1 hf1 hP1 hD1 hz1 hk1 hS1 => ?_)
  obtain ⟨hP, hD⟩ := wj hP hD (fun q h => Nat.le_trans hS.1 h) hP1 hD1 hk1
  have hS := hS1
  have hS0 := hS1
  obtain ⟨kv, ekv⟩ : ∃ v, v = kR ["java/lang/IllegalArgumentException", "java/lang/IllegalStateException"] R := ⟨_, rfl⟩
  rw [← ekv]
  refine lv_istore (lv' := [(5, .int kv), (4, .int i), (0, .ref b), (1, .ref qk), (2, .ref hm), (3, .ref qo)]) hx hb dL_law_287 hl (by decide) rfl (fun ls hl => ?_)
  refine lv_aload_n hx hb dL_law_289 rfl (lv_at hl 4 rfl) ?_
  refine lv_aload_n hx hb dL_law_290 rfl (lv_at hl 2 rfl) ?_
  refine lv_iload hx hb dL_law_291 (lv_at hl 1 rfl) ?_
  refine lv_iconst (v := 1) hx hb dL_law_293 (by decide) ?_
  refine lv_iadd hx hb dL_law_294 ?_
  refine va_sld hx hb hX hbl hbA hS (hi 1 (by decide)) dL_law_295 ?_
  have hPy := wp_r hP
  have hDy := wd_r hD
  have hFy : ∀ q, va_A (YW cI cJ hm y μ) H1.size q → s.heap.size ≤ q := va_A_of hDy hS hA
  refine va_calli (va_runV (As := [.int (xs (i + 1).toNatClampNeg)]) (rest := []) ⟨hx, hb, hml, hown, hts⟩ (v_addHoliday l D cI cJ cO hm y μ H1.size N (xs (i + 1).toNatClampNeg) r hm5) (cwV 1 hts gL_law_X5_addHoliday rfl rfl rfl (by decide +kernel) ⟨(Nat.le_of_ble_eq_true rfl), (Nat.le_of_ble_eq_true rfl)⟩) ⟨mp_blind, va_recv hK hPy (ci := 4) (q0 := 0) rfl rfl, fun U hU hW => ⟨rfl, mp_at hZ hS hPy hK hDy hFy hU hW (Or.inl rfl)⟩⟩ rfl rfl hl.1 rfl (lv_room (Nat.le_of_ble_eq_true rfl)) dL_law_296 ⟨(by show cells + 2 + 0 ≤ 601024; omega), (by show slots + 12 + 0 ≤ 7293034; omega)⟩) hS (fun q _ h => hFy q h) hFy (fun rv u5 t H2 locs2 ht9 hvm hw hBx hz2 hk2 hS => ?_)
  subst hw
  obtain ⟨hP2, hD2⟩ := hBx
  rw [ht9] at hP2
  obtain ⟨hP, hD⟩ := wjr hP hD (fun q h => Nat.le_trans hS0.1 h) hP2 hD2 hk2
  refine lv_istore (lv' := [(6, .int r.1), (5, .int kv), (4, .int i), (0, .ref b), (1, .ref qk), (2, .ref hm), (3, .ref qo)]) hx hb dL_law_299 hl (by decide) rfl (fun ls hl => ?_)
  refine lv_aload_n hx hb dL_law_301 rfl (lv_at hl 5 rfl) ?_
  have hPy := wp_r hP
  refine cSi (W.runV (As := []) (rest := []) ⟨hx, hb, hml, hown, hts⟩ (m_X5_thrown l D cI cJ cO hm y.1 y.2.1 y.2.2.1 y.2.2.2 r.2.1 r.2.2.1 r.2.2.2.1 r.2.2.2.2.1 r.2.2.2.2.2.1 r.2.2.2.2.2.2 (r.2.1 0) rfl) (cwV 0 hts gL_law_X5_thrown rfl rfl rfl (by decide +kernel) ⟨(Nat.le_of_ble_eq_true rfl), (Nat.le_of_ble_eq_true rfl)⟩) ⟨pw_blind, va_recv hK hPy (ci := 4) (q0 := 0) rfl rfl, fun U hU hW => ⟨rfl, pw_at hZ hS hPy hK hU hW (Or.inl rfl) [0, 1, 2, 3, 4] rfl⟩⟩ rfl rfl hl.1 rfl (lv_room (Nat.le_of_ble_eq_true rfl)) dL_law_302 ⟨(by show cells + 2 ≤ 601024; omega), (by show slots + 12 ≤ 7293034; omega)⟩) ?_
  refine lv_iload hx hb dL_law_305 (lv_at hl 1 rfl) ?_
  refine lv_icmp_eq (tgt := 312) hx hb dL_law_307 (by decide) (fun _ => ?_) (fun c0 => absurd (ha.trans ekv.symm) c0)
  refine lv_iload hx hb dL_law_312 (lv_at hl 1 rfl) ?_
  refine lv_if_ne (tgt := 329) hx hb dL_law_314 (by decide) (fun _ => ?_) (fun c0 => ?_)
  · refine lv_goto (tgt := 1686) hx hb dL_law_329 (by decide) ?_
    exact kk _ _ _ _ _ hP hD hS (lv_sub hl [2, 3, 4, 5, 6] rfl)
  · rcases hR : R with u | E0
    · have hfv := hf1 u hR
      have hve := hv u hR
      have hPx := wp_l hP
      refine lv_aload_n hx hb dL_law_317 rfl (lv_at hl 6 rfl) ?_
      refine lv_iconst (v := 0) hx hb dL_law_318 (by decide) ?_
      refine va_lald hx hb hK hPx 0 1 rfl rfl in01 dL_law_319 ?_
      refine lv_iload hx hb dL_law_320 (lv_at hl 0 rfl) ?_
      refine lv_i2l hx hb dL_law_322 rfl ?_
      refine W.lcmp hx hb dL_law_323 ?_
      refine lv_if_eq (tgt := 329) hx hb dL_law_324 (by decide) (fun _ => ?_) (fun c1 => absurd ((lg_cmp_eq _ _).mpr (hfv.trans hve)) c1)
      refine lv_goto (tgt := 1686) hx hb dL_law_329 (by decide) ?_
      exact kk _ _ _ _ _ hP hD hS (lv_sub hl [2, 3, 4, 5, 6] rfl)
    · have hm9 := hE0 E0 hR
      have h9 : kR ["java/lang/IllegalArgumentException", "java/lang/IllegalStateException"] R = 0 := ekv.symm.trans c0
      rw [hR] at h9
      simp only [List.mem_cons, List.not_mem_nil, or_false] at hm9
      rcases hm9 with rfl | rfl <;> exact absurd h9 (by decide)
set_option maxHeartbeats 4000000 in
set_option maxRecDepth 100000 in
theorem lc_working {p : Program} {l : Launch} {e : Env} {s : State} {m : MethodId} {below : List Frame} {meth : Method} {c : Code} {b L : Nat} {xs : Nat → Int32} {D : va_G} {cI cJ cO : ClassId} {ah : Nat} (E : LE p s l m meth c b L xs D cI cJ cO ah) {Q : State → Prop} {N : Nat} {qk qo hm : Nat} {i : Int32} (hi : ∀ k : Int32, k ∈ [1, 2, 3, 4, 5] → vp_in (i + k) L) {cells slots : Nat} (hc : cells + 9 ≤ 601024) (hs : slots + 182 ≤ 7293034) {H : Heap} {locs : List Loc} {z : AZ} {f : Nat → Int64} {g : SG} {y : Nat × Nat × Nat × Nat} {μ : SM} (hP : va_P D vwCl (WL cI cJ cO qk qo hm z f g y μ) H) (hD : va_D (fun q => s.heap.size ≤ q) (WL cI cJ cO qk qo hm z f g y μ)) (hS : va_S (fun q => s.heap.size ≤ q) s.heap H locs) {ls : Array Slot} (hl : lv_has ls 9 [(4, .int i), (0, .ref b), (1, .ref qk), (2, .ref hm), (3, .ref qo)]) {R : (Int32 × SG) ⊕ String} {r : Int32 × SM} (hk : k_working N g (xs (i + 1).toNatClampNeg) = some R) (hm5 : q_working N μ (xs (i + 1).toNatClampNeg) = some r) (hE0 : ∀ E, R = .inr E → E ∈ ["java/lang/IllegalArgumentException"]) (ha : r.2.1 0 = kR ["java/lang/IllegalArgumentException"] R) (hv : ∀ u, R = .inl u → u.1.toInt64 = r.1.toInt64) (kk : ∀ (z1 : AZ) (f1 : Nat → Int64) (H1 : Heap) (locs1 : List Loc) (ls1 : Array Slot), va_P D vwCl (WL cI cJ cO qk qo hm z1 f1 (gR g R) y r.2) H1 → va_D (fun q => s.heap.size ≤ q) (WL cI cJ cO qk qo hm z1 f1 (gR g R) y r.2) → va_S (fun q => s.heap.size ≤ q) s.heap H1 locs1 → lv_has ls1 9 [(4, .int i), (0, .ref b), (1, .ref qk), (2, .ref hm), (3, .ref qo)] → W p l e room_1 s m #[.ref b] below meth c H1 locs1 (cells + 2) (slots + 12) Q (F0 m 1686 ls1 [])) : W p l e room_1 s m #[.ref b] below meth c H locs cells slots Q (F0 m 332 ls []) := by
  obtain ⟨hx, hb, hml, hown, hts, hX, hbl, hK, hZ, hT, hNc, hl0⟩ := E
  have hA : ∀ q : Nat, s.heap.size ≤ q → (fun q : Nat => s.heap.size ≤ q) q := fun _ h => h
  have hbA : ¬ (fun q : Nat => s.heap.size ≤ q) b := Nat.not_le.mpr hbl
  refine lv_aload_n hx hb dL_law_332 rfl (lv_at hl 2 rfl) ?_
  refine lv_aload_n hx hb dL_law_333 rfl (lv_at hl 1 rfl) ?_
  refine lv_iload hx hb dL_law_334 (lv_at hl 0 rfl) ?_
  refine lv_iconst (v := 1) hx hb dL_law_336 (by decide) ?_
  refine lv_iadd hx hb dL_law_337 ?_
  refine va_sld hx hb hX hbl hbA hS (hi 1 (by decide)) dL_law_338 ?_
  refine lv_aload_n hx hb dL_law_339 rfl (lv_at hl 4 rfl) ?_
  have hPx := wp_l hP
  have hDx := wd_l hD
  have hFx : ∀ q, va_A (XW cI cJ cO qk qo z f g) H.size q → s.heap.size ≤ q := va_A_of hDx hS hA
  refine xH (vx_runSW (As := [.ref qk, .int (xs (i + 1).toNatClampNeg), .ref qo]) (rest := []) ⟨hx, hb, hml, hown, hts⟩ (h_working l D cI cJ cO ah qk qo f z g H.size N (xs (i + 1).toNatClampNeg) R hl0 hk hE0) (vx_cwSW 3 hts gL_law_L_working rfl rfl rfl (by decide +kernel) ⟨(Nat.le_of_ble_eq_true rfl), (Nat.le_of_ble_eq_true rfl)⟩) ⟨hp_blind, fun U hU hW => ⟨rfl, ⟨mp_at hZ hS hPx hK hDx hFx hU hW (Or.inr rfl), by rw [hU]; exact px_at hT hS hW hFx⟩, ncs_moved hW.alike hNc⟩⟩ rfl rfl hl.1 rfl (lv_room (Nat.le_of_ble_eq_true rfl)) dL_law_340 ⟨(by show cells + 2 ≤ 601024; omega), (by show slots + 12 ≤ 7293034; omega)⟩) hS hFx (fun z1 f1 H1 locs1 hf1 hP1 hD1 hz1 hk1 hS1 => ?_)
  obtain ⟨hP, hD⟩ := wj hP hD (fun q h => Nat.le_trans hS.1 h) hP1 hD1 hk1
  have hS := hS1
  have hS0 := hS1
  obtain ⟨kv, ekv⟩ : ∃ v, v = kR ["java/lang/IllegalArgumentException"] R := ⟨_, rfl⟩
  rw [← ekv]
  refine lv_istore (lv' := [(5, .int kv), (4, .int i), (0, .ref b), (1, .ref qk), (2, .ref hm), (3, .ref qo)]) hx hb dL_law_343 hl (by decide) rfl (fun ls hl => ?_)
  refine lv_aload_n hx hb dL_law_345 rfl (lv_at hl 4 rfl) ?_
  refine lv_aload_n hx hb dL_law_346 rfl (lv_at hl 2 rfl) ?_
  refine lv_iload hx hb dL_law_347 (lv_at hl 1 rfl) ?_
  refine lv_iconst (v := 1) hx hb dL_law_349 (by decide) ?_
  refine lv_iadd hx hb dL_law_350 ?_
  refine va_sld hx hb hX hbl hbA hS (hi 1 (by decide)) dL_law_351 ?_
  have hPy := wp_r hP
  have hDy := wd_r hD
  have hFy : ∀ q, va_A (YW cI cJ hm y μ) H1.size q → s.heap.size ≤ q := va_A_of hDy hS hA
  refine va_calli (va_runV (As := [.int (xs (i + 1).toNatClampNeg)]) (rest := []) ⟨hx, hb, hml, hown, hts⟩ (v_working l D cI cJ cO hm y μ H1.size N (xs (i + 1).toNatClampNeg) r hm5) (cwV 1 hts gL_law_X5_working rfl rfl rfl (by decide +kernel) ⟨(Nat.le_of_ble_eq_true rfl), (Nat.le_of_ble_eq_true rfl)⟩) ⟨mp_blind, va_recv hK hPy (ci := 4) (q0 := 0) rfl rfl, fun U hU hW => ⟨rfl, mp_at hZ hS hPy hK hDy hFy hU hW (Or.inl rfl)⟩⟩ rfl rfl hl.1 rfl (lv_room (Nat.le_of_ble_eq_true rfl)) dL_law_352 ⟨(by show cells + 2 + 0 ≤ 601024; omega), (by show slots + 12 + 0 ≤ 7293034; omega)⟩) hS (fun q _ h => hFy q h) hFy (fun rv u5 t H2 locs2 ht9 hvm hw hBx hz2 hk2 hS => ?_)
  subst hw
  obtain ⟨hP2, hD2⟩ := hBx
  rw [ht9] at hP2
  obtain ⟨hP, hD⟩ := wjr hP hD (fun q h => Nat.le_trans hS0.1 h) hP2 hD2 hk2
  refine lv_istore (lv' := [(6, .int r.1), (5, .int kv), (4, .int i), (0, .ref b), (1, .ref qk), (2, .ref hm), (3, .ref qo)]) hx hb dL_law_355 hl (by decide) rfl (fun ls hl => ?_)
  refine lv_aload_n hx hb dL_law_357 rfl (lv_at hl 5 rfl) ?_
  have hPy := wp_r hP
  refine cSi (W.runV (As := []) (rest := []) ⟨hx, hb, hml, hown, hts⟩ (m_X5_thrown l D cI cJ cO hm y.1 y.2.1 y.2.2.1 y.2.2.2 r.2.1 r.2.2.1 r.2.2.2.1 r.2.2.2.2.1 r.2.2.2.2.2.1 r.2.2.2.2.2.2 (r.2.1 0) rfl) (cwV 0 hts gL_law_X5_thrown rfl rfl rfl (by decide +kernel) ⟨(Nat.le_of_ble_eq_true rfl), (Nat.le_of_ble_eq_true rfl)⟩) ⟨pw_blind, va_recv hK hPy (ci := 4) (q0 := 0) rfl rfl, fun U hU hW => ⟨rfl, pw_at hZ hS hPy hK hU hW (Or.inl rfl) [0, 1, 2, 3, 4] rfl⟩⟩ rfl rfl hl.1 rfl (lv_room (Nat.le_of_ble_eq_true rfl)) dL_law_358 ⟨(by show cells + 2 ≤ 601024; omega), (by show slots + 12 ≤ 7293034; omega)⟩) ?_
  refine lv_iload hx hb dL_law_361 (lv_at hl 1 rfl) ?_
  refine lv_icmp_eq (tgt := 368) hx hb dL_law_363 (by decide) (fun _ => ?_) (fun c0 => absurd (ha.trans ekv.symm) c0)
  refine lv_iload hx hb dL_law_368 (lv_at hl 1 rfl) ?_
  refine lv_if_ne (tgt := 385) hx hb dL_law_370 (by decide) (fun _ => ?_) (fun c0 => ?_)
  · refine lv_goto (tgt := 1686) hx hb dL_law_385 (by decide) ?_
    exact kk _ _ _ _ _ hP hD hS (lv_sub hl [2, 3, 4, 5, 6] rfl)
  · rcases hR : R with u | E0
    · have hfv := hf1 u hR
      have hve := hv u hR
      have hPx := wp_l hP
      refine lv_aload_n hx hb dL_law_373 rfl (lv_at hl 6 rfl) ?_
      refine lv_iconst (v := 0) hx hb dL_law_374 (by decide) ?_
      refine va_lald hx hb hK hPx 0 1 rfl rfl in01 dL_law_375 ?_
      refine lv_iload hx hb dL_law_376 (lv_at hl 0 rfl) ?_
      refine lv_i2l hx hb dL_law_378 rfl ?_
      refine W.lcmp hx hb dL_law_379 ?_
      refine lv_if_eq (tgt := 385) hx hb dL_law_380 (by decide) (fun _ => ?_) (fun c1 => absurd ((lg_cmp_eq _ _).mpr (hfv.trans hve)) c1)
      refine lv_goto (tgt := 1686) hx hb dL_law_385 (by decide) ?_
      exact kk _ _ _ _ _ hP hD hS (lv_sub hl [2, 3, 4, 5, 6] rfl)
    · have hm9 := hE0 E0 hR
      have h9 : kR ["java/lang/IllegalArgumentException"] R = 0 := ekv.symm.trans c0
      rw [hR] at h9
      simp only [List.mem_cons, List.not_mem_nil, or_false] at hm9
      subst hm9; exact absurd h9 (by decide)
set_option maxHeartbeats 4000000 in
set_option maxRecDepth 100000 in
theorem lc_addBond {p : Program} {l : Launch} {e : Env} {s : State} {m : MethodId} {below : List Frame} {meth : Method} {c : Code} {b L : Nat} {xs : Nat → Int32} {D : va_G} {cI cJ cO : ClassId} {ah : Nat} (E : LE p s l m meth c b L xs D cI cJ cO ah) {Q : State → Prop} {N : Nat} {qk qo hm : Nat} {i : Int32} (hi : ∀ k : Int32, k ∈ [1, 2, 3, 4, 5] → vp_in (i + k) L) {cells slots : Nat} (hc : cells + 9 ≤ 601024) (hs : slots + 182 ≤ 7293034) {H : Heap} {locs : List Loc} {z : AZ} {f : Nat → Int64} {g : SG} {y : Nat × Nat × Nat × Nat} {μ : SM} (hP : va_P D vwCl (WL cI cJ cO qk qo hm z f g y μ) H) (hD : va_D (fun q => s.heap.size ≤ q) (WL cI cJ cO qk qo hm z f g y μ)) (hS : va_S (fun q => s.heap.size ≤ q) s.heap H locs) {ls : Array Slot} (hl : lv_has ls 9 [(4, .int i), (0, .ref b), (1, .ref qk), (2, .ref hm), (3, .ref qo)]) {R : (Int32 × SG) ⊕ String} {r : Int32 × SM} (hn0 : (g.1 4).toNatClampNeg = g.2.2.2.2.1) (hk : k_addBond N g (xs (i + 1).toNatClampNeg) (xs (i + 2).toNatClampNeg) (xs (i + 3).toNatClampNeg) (xs (i + 4).toNatClampNeg) (xs (i + 5).toNatClampNeg) = some R) (hm5 : q_addBond N μ (xs (i + 1).toNatClampNeg) (xs (i + 2).toNatClampNeg) (xs (i + 3).toNatClampNeg) (xs (i + 4).toNatClampNeg) (xs (i + 5).toNatClampNeg) = some r) (hE0 : ∀ E, R = .inr E → E ∈ ["java/lang/IllegalArgumentException", "java/lang/IllegalStateException"]) (ha : r.2.1 0 = kR ["java/lang/IllegalArgumentException", "java/lang/IllegalStateException"] R) (hv : ∀ u, R = .inl u → u.1.toInt64 = r.1.toInt64) (kk : ∀ (z1 : AZ) (f1 : Nat → Int64) (H1 : Heap) (locs1 : List Loc) (ls1 : Array Slot), va_P D vwCl (WL cI cJ cO qk qo hm z1 f1 (gR g R) y r.2) H1 → va_D (fun q => s.heap.size ≤ q) (WL cI cJ cO qk qo hm z1 f1 (gR g R) y r.2) → va_S (fun q => s.heap.size ≤ q) s.heap H1 locs1 → lv_has ls1 9 [(4, .int i), (0, .ref b), (1, .ref qk), (2, .ref hm), (3, .ref qo)] → W p l e room_1 s m #[.ref b] below meth c H1 locs1 (cells + 9) (slots + 182) Q (F0 m 1686 ls1 [])) : W p l e room_1 s m #[.ref b] below meth c H locs cells slots Q (F0 m 388 ls []) := by
  obtain ⟨hx, hb, hml, hown, hts, hX, hbl, hK, hZ, hT, hNc, hl0⟩ := E
  have hA : ∀ q : Nat, s.heap.size ≤ q → (fun q : Nat => s.heap.size ≤ q) q := fun _ h => h
  have hbA : ¬ (fun q : Nat => s.heap.size ≤ q) b := Nat.not_le.mpr hbl
  refine lv_aload_n hx hb dL_law_388 rfl (lv_at hl 2 rfl) ?_
  refine lv_aload_n hx hb dL_law_389 rfl (lv_at hl 1 rfl) ?_
  refine lv_iload hx hb dL_law_390 (lv_at hl 0 rfl) ?_
  refine lv_iconst (v := 1) hx hb dL_law_392 (by decide) ?_
  refine lv_iadd hx hb dL_law_393 ?_
  refine va_sld hx hb hX hbl hbA hS (hi 1 (by decide)) dL_law_394 ?_
  refine lv_aload_n hx hb dL_law_395 rfl (lv_at hl 1 rfl) ?_
  refine lv_iload hx hb dL_law_396 (lv_at hl 0 rfl) ?_
  refine lv_iconst (v := 2) hx hb dL_law_398 (by decide) ?_
  refine lv_iadd hx hb dL_law_399 ?_
  refine va_sld hx hb hX hbl hbA hS (hi 2 (by decide)) dL_law_400 ?_
  refine lv_aload_n hx hb dL_law_401 rfl (lv_at hl 1 rfl) ?_
  refine lv_iload hx hb dL_law_402 (lv_at hl 0 rfl) ?_
  refine lv_iconst (v := 3) hx hb dL_law_404 (by decide) ?_
  refine lv_iadd hx hb dL_law_405 ?_
  refine va_sld hx hb hX hbl hbA hS (hi 3 (by decide)) dL_law_406 ?_
  refine lv_aload_n hx hb dL_law_407 rfl (lv_at hl 1 rfl) ?_
  refine lv_iload hx hb dL_law_408 (lv_at hl 0 rfl) ?_
  refine lv_iconst (v := 4) hx hb dL_law_410 (by decide) ?_
  refine lv_iadd hx hb dL_law_411 ?_
  refine va_sld hx hb hX hbl hbA hS (hi 4 (by decide)) dL_law_412 ?_
  refine lv_aload_n hx hb dL_law_413 rfl (lv_at hl 1 rfl) ?_
  refine lv_iload hx hb dL_law_414 (lv_at hl 0 rfl) ?_
  refine lv_iconst (v := 5) hx hb dL_law_416 (by decide) ?_
  refine lv_iadd hx hb dL_law_417 ?_
  refine va_sld hx hb hX hbl hbA hS (hi 5 (by decide)) dL_law_418 ?_
  refine lv_aload_n hx hb dL_law_419 rfl (lv_at hl 4 rfl) ?_
  have hPx := wp_l hP
  have hDx := wd_l hD
  have hFx : ∀ q, va_A (XW cI cJ cO qk qo z f g) H.size q → s.heap.size ≤ q := va_A_of hDx hS hA
  refine xH (vx_runSW (As := [.ref qk, .int (xs (i + 1).toNatClampNeg), .int (xs (i + 2).toNatClampNeg), .int (xs (i + 3).toNatClampNeg), .int (xs (i + 4).toNatClampNeg), .int (xs (i + 5).toNatClampNeg), .ref qo]) (rest := []) ⟨hx, hb, hml, hown, hts⟩ (h_addBond l D cI cJ cO ah qk qo f z g H.size N (xs (i + 1).toNatClampNeg) (xs (i + 2).toNatClampNeg) (xs (i + 3).toNatClampNeg) (xs (i + 4).toNatClampNeg) (xs (i + 5).toNatClampNeg) R hl0 hn0 hk hE0) (vx_cwSW 7 hts gL_law_L_addBond rfl rfl rfl (by decide +kernel) ⟨(Nat.le_of_ble_eq_true rfl), (Nat.le_of_ble_eq_true rfl)⟩) ⟨hp_blind, fun U hU hW => ⟨rfl, ⟨mp_at hZ hS hPx hK hDx hFx hU hW (Or.inr rfl), by rw [hU]; exact px_at hT hS hW hFx⟩, ncs_moved hW.alike hNc⟩⟩ rfl rfl hl.1 rfl (lv_room (Nat.le_of_ble_eq_true rfl)) dL_law_420 ⟨(by show cells + 8 ≤ 601024; omega), (by show slots + 168 ≤ 7293034; omega)⟩) hS hFx (fun z1 f1 H1 locs1 hf1 hP1 hD1 hz1 hk1 hS1 => ?_)
  obtain ⟨hP, hD⟩ := wj hP hD (fun q h => Nat.le_trans hS.1 h) hP1 hD1 hk1
  have hS := hS1
  have hS0 := hS1
  obtain ⟨kv, ekv⟩ : ∃ v, v = kR ["java/lang/IllegalArgumentException", "java/lang/IllegalStateException"] R := ⟨_, rfl⟩
  rw [← ekv]
  refine lv_istore (lv' := [(5, .int kv), (4, .int i), (0, .ref b), (1, .ref qk), (2, .ref hm), (3, .ref qo)]) hx hb dL_law_423 hl (by decide) rfl (fun ls hl => ?_)
  refine lv_aload_n hx hb dL_law_425 rfl (lv_at hl 4 rfl) ?_
  refine lv_aload_n hx hb dL_law_426 rfl (lv_at hl 2 rfl) ?_
  refine lv_iload hx hb dL_law_427 (lv_at hl 1 rfl) ?_
  refine lv_iconst (v := 1) hx hb dL_law_429 (by decide) ?_
  refine lv_iadd hx hb dL_law_430 ?_
  refine va_sld hx hb hX hbl hbA hS (hi 1 (by decide)) dL_law_431 ?_
  refine lv_aload_n hx hb dL_law_432 rfl (lv_at hl 2 rfl) ?_
  refine lv_iload hx hb dL_law_433 (lv_at hl 1 rfl) ?_
  refine lv_iconst (v := 2) hx hb dL_law_435 (by decide) ?_
  refine lv_iadd hx hb dL_law_436 ?_
  refine va_sld hx hb hX hbl hbA hS (hi 2 (by decide)) dL_law_437 ?_
  refine lv_aload_n hx hb dL_law_438 rfl (lv_at hl 2 rfl) ?_
  refine lv_iload hx hb dL_law_439 (lv_at hl 1 rfl) ?_
  refine lv_iconst (v := 3) hx hb dL_law_441 (by decide) ?_
  refine lv_iadd hx hb dL_law_442 ?_
  refine va_sld hx hb hX hbl hbA hS (hi 3 (by decide)) dL_law_443 ?_
  refine lv_aload_n hx hb dL_law_444 rfl (lv_at hl 2 rfl) ?_
  refine lv_iload hx hb dL_law_445 (lv_at hl 1 rfl) ?_
  refine lv_iconst (v := 4) hx hb dL_law_447 (by decide) ?_
  refine lv_iadd hx hb dL_law_448 ?_
  refine va_sld hx hb hX hbl hbA hS (hi 4 (by decide)) dL_law_449 ?_
  refine lv_aload_n hx hb dL_law_450 rfl (lv_at hl 2 rfl) ?_
  refine lv_iload hx hb dL_law_451 (lv_at hl 1 rfl) ?_
  refine lv_iconst (v := 5) hx hb dL_law_453 (by decide) ?_
  refine lv_iadd hx hb dL_law_454 ?_
  refine va_sld hx hb hX hbl hbA hS (hi 5 (by decide)) dL_law_455 ?_
  have hPy := wp_r hP
  have hDy := wd_r hD
  have hFy : ∀ q, va_A (YW cI cJ hm y μ) H1.size q → s.heap.size ≤ q := va_A_of hDy hS hA
  refine va_calli (va_runV (As := [.int (xs (i + 1).toNatClampNeg), .int (xs (i + 2).toNatClampNeg), .int (xs (i + 3).toNatClampNeg), .int (xs (i + 4).toNatClampNeg), .int (xs (i + 5).toNatClampNeg)]) (rest := []) ⟨hx, hb, hml, hown, hts⟩ (v_addBond l D cI cJ cO hm y μ H1.size N (xs (i + 1).toNatClampNeg) (xs (i + 2).toNatClampNeg) (xs (i + 3).toNatClampNeg) (xs (i + 4).toNatClampNeg) (xs (i + 5).toNatClampNeg) r hm5) (cwV 5 hts gL_law_X5_addBond rfl rfl rfl (by decide +kernel) ⟨(Nat.le_of_ble_eq_true rfl), (Nat.le_of_ble_eq_true rfl)⟩) ⟨mp_blind, va_recv hK hPy (ci := 4) (q0 := 0) rfl rfl, fun U hU hW => ⟨rfl, mp_at hZ hS hPy hK hDy hFy hU hW (Or.inl rfl)⟩⟩ rfl rfl hl.1 rfl (lv_room (Nat.le_of_ble_eq_true rfl)) dL_law_456 ⟨(by show cells + 8 + 1 ≤ 601024; omega), (by show slots + 168 + 14 ≤ 7293034; omega)⟩) hS (fun q _ h => hFy q h) hFy (fun rv u5 t H2 locs2 ht9 hvm hw hBx hz2 hk2 hS => ?_)
  subst hw
  obtain ⟨hP2, hD2⟩ := hBx
  rw [ht9] at hP2
  obtain ⟨hP, hD⟩ := wjr hP hD (fun q h => Nat.le_trans hS0.1 h) hP2 hD2 hk2
  refine lv_istore (lv' := [(6, .int r.1), (5, .int kv), (4, .int i), (0, .ref b), (1, .ref qk), (2, .ref hm), (3, .ref qo)]) hx hb dL_law_459 hl (by decide) rfl (fun ls hl => ?_)
  refine lv_aload_n hx hb dL_law_461 rfl (lv_at hl 5 rfl) ?_
  have hPy := wp_r hP
  refine cSi (W.runV (As := []) (rest := []) ⟨hx, hb, hml, hown, hts⟩ (m_X5_thrown l D cI cJ cO hm y.1 y.2.1 y.2.2.1 y.2.2.2 r.2.1 r.2.2.1 r.2.2.2.1 r.2.2.2.2.1 r.2.2.2.2.2.1 r.2.2.2.2.2.2 (r.2.1 0) rfl) (cwV 0 hts gL_law_X5_thrown rfl rfl rfl (by decide +kernel) ⟨(Nat.le_of_ble_eq_true rfl), (Nat.le_of_ble_eq_true rfl)⟩) ⟨pw_blind, va_recv hK hPy (ci := 4) (q0 := 0) rfl rfl, fun U hU hW => ⟨rfl, pw_at hZ hS hPy hK hU hW (Or.inl rfl) [0, 1, 2, 3, 4] rfl⟩⟩ rfl rfl hl.1 rfl (lv_room (Nat.le_of_ble_eq_true rfl)) dL_law_462 ⟨(by show cells + 9 ≤ 601024; omega), (by show slots + 182 ≤ 7293034; omega)⟩) ?_
  refine lv_iload hx hb dL_law_465 (lv_at hl 1 rfl) ?_
  refine lv_icmp_eq (tgt := 472) hx hb dL_law_467 (by decide) (fun _ => ?_) (fun c0 => absurd (ha.trans ekv.symm) c0)
  refine lv_iload hx hb dL_law_472 (lv_at hl 1 rfl) ?_
  refine lv_if_ne (tgt := 489) hx hb dL_law_474 (by decide) (fun _ => ?_) (fun c0 => ?_)
  · refine lv_goto (tgt := 1686) hx hb dL_law_489 (by decide) ?_
    exact kk _ _ _ _ _ hP hD hS (lv_sub hl [2, 3, 4, 5, 6] rfl)
  · rcases hR : R with u | E0
    · have hfv := hf1 u hR
      have hve := hv u hR
      have hPx := wp_l hP
      refine lv_aload_n hx hb dL_law_477 rfl (lv_at hl 6 rfl) ?_
      refine lv_iconst (v := 0) hx hb dL_law_478 (by decide) ?_
      refine va_lald hx hb hK hPx 0 1 rfl rfl in01 dL_law_479 ?_
      refine lv_iload hx hb dL_law_480 (lv_at hl 0 rfl) ?_
      refine lv_i2l hx hb dL_law_482 rfl ?_
      refine W.lcmp hx hb dL_law_483 ?_
      refine lv_if_eq (tgt := 489) hx hb dL_law_484 (by decide) (fun _ => ?_) (fun c1 => absurd ((lg_cmp_eq _ _).mpr (hfv.trans hve)) c1)
      refine lv_goto (tgt := 1686) hx hb dL_law_489 (by decide) ?_
      exact kk _ _ _ _ _ hP hD hS (lv_sub hl [2, 3, 4, 5, 6] rfl)
    · have hm9 := hE0 E0 hR
      have h9 : kR ["java/lang/IllegalArgumentException", "java/lang/IllegalStateException"] R = 0 := ekv.symm.trans c0
      rw [hR] at h9
      simp only [List.mem_cons, List.not_mem_nil, or_false] at hm9
      rcases hm9 with rfl | rfl <;> exact absurd h9 (by decide)
set_option maxHeartbeats 4000000 in
set_option maxRecDepth 100000 in
theorem lc_setSink {p : Program} {l : Launch} {e : Env} {s : State} {m : MethodId} {below : List Frame} {meth : Method} {c : Code} {b L : Nat} {xs : Nat → Int32} {D : va_G} {cI cJ cO : ClassId} {ah : Nat} (E : LE p s l m meth c b L xs D cI cJ cO ah) {Q : State → Prop} {N : Nat} {qk qo hm : Nat} {i : Int32} (hi : ∀ k : Int32, k ∈ [1, 2, 3, 4, 5] → vp_in (i + k) L) {cells slots : Nat} (hc : cells + 9 ≤ 601024) (hs : slots + 182 ≤ 7293034) {H : Heap} {locs : List Loc} {z : AZ} {f : Nat → Int64} {g : SG} {y : Nat × Nat × Nat × Nat} {μ : SM} (hP : va_P D vwCl (WL cI cJ cO qk qo hm z f g y μ) H) (hD : va_D (fun q => s.heap.size ≤ q) (WL cI cJ cO qk qo hm z f g y μ)) (hS : va_S (fun q => s.heap.size ≤ q) s.heap H locs) {ls : Array Slot} (hl : lv_has ls 9 [(4, .int i), (0, .ref b), (1, .ref qk), (2, .ref hm), (3, .ref qo)]) {R : (Int32 × SG) ⊕ String} {r : Int32 × SM} (hk : k_setSink N g (xs (i + 1).toNatClampNeg) (xs (i + 2).toNatClampNeg) (xs (i + 3).toNatClampNeg) = some R) (hm5 : q_setSink N μ (xs (i + 1).toNatClampNeg) (xs (i + 2).toNatClampNeg) (xs (i + 3).toNatClampNeg) = some r) (hE0 : ∀ E, R = .inr E → E ∈ ["java/lang/IndexOutOfBoundsException", "java/lang/IllegalArgumentException", "java/lang/IllegalStateException"]) (ha : r.2.1 0 = kR ["java/lang/IndexOutOfBoundsException", "java/lang/IllegalArgumentException", "java/lang/IllegalStateException"] R) (hv : ∀ u, R = .inl u → u.1.toInt64 = r.1.toInt64) (kk : ∀ (z1 : AZ) (f1 : Nat → Int64) (H1 : Heap) (locs1 : List Loc) (ls1 : Array Slot), va_P D vwCl (WL cI cJ cO qk qo hm z1 f1 (gR g R) y r.2) H1 → va_D (fun q => s.heap.size ≤ q) (WL cI cJ cO qk qo hm z1 f1 (gR g R) y r.2) → va_S (fun q => s.heap.size ≤ q) s.heap H1 locs1 → lv_has ls1 9 [(4, .int i), (0, .ref b), (1, .ref qk), (2, .ref hm), (3, .ref qo)] → W p l e room_1 s m #[.ref b] below meth c H1 locs1 (cells + 3) (slots + 18) Q (F0 m 1686 ls1 [])) : W p l e room_1 s m #[.ref b] below meth c H locs cells slots Q (F0 m 492 ls []) := by
  obtain ⟨hx, hb, hml, hown, hts, hX, hbl, hK, hZ, hT, hNc, hl0⟩ := E
  have hA : ∀ q : Nat, s.heap.size ≤ q → (fun q : Nat => s.heap.size ≤ q) q := fun _ h => h
  have hbA : ¬ (fun q : Nat => s.heap.size ≤ q) b := Nat.not_le.mpr hbl
  refine lv_aload_n hx hb dL_law_492 rfl (lv_at hl 2 rfl) ?_
  refine lv_aload_n hx hb dL_law_493 rfl (lv_at hl 1 rfl) ?_
  refine lv_iload hx hb dL_law_494 (lv_at hl 0 rfl) ?_
  refine lv_iconst (v := 1) hx hb dL_law_496 (by decide) ?_
  refine lv_iadd hx hb dL_law_497 ?_
  refine va_sld hx hb hX hbl hbA hS (hi 1 (by decide)) dL_law_498 ?_
  refine lv_aload_n hx hb dL_law_499 rfl (lv_at hl 1 rfl) ?_
  refine lv_iload hx hb dL_law_500 (lv_at hl 0 rfl) ?_
  refine lv_iconst (v := 2) hx hb dL_law_502 (by decide) ?_
  refine lv_iadd hx hb dL_law_503 ?_
  refine va_sld hx hb hX hbl hbA hS (hi 2 (by decide)) dL_law_504 ?_
  refine lv_aload_n hx hb dL_law_505 rfl (lv_at hl 1 rfl) ?_
  refine lv_iload hx hb dL_law_506 (lv_at hl 0 rfl) ?_
  refine lv_iconst (v := 3) hx hb dL_law_508 (by decide) ?_
  refine lv_iadd hx hb dL_law_509 ?_
  refine va_sld hx hb hX hbl hbA hS (hi 3 (by decide)) dL_law_510 ?_
  refine lv_aload_n hx hb dL_law_511 rfl (lv_at hl 4 rfl) ?_
  have hPx := wp_l hP
  have hDx := wd_l hD
  have hFx : ∀ q, va_A (XW cI cJ cO qk qo z f g) H.size q → s.heap.size ≤ q := va_A_of hDx hS hA
  refine xH (vx_runSW (As := [.ref qk, .int (xs (i + 1).toNatClampNeg), .int (xs (i + 2).toNatClampNeg), .int (xs (i + 3).toNatClampNeg), .ref qo]) (rest := []) ⟨hx, hb, hml, hown, hts⟩ (h_setSink l D cI cJ cO ah qk qo f z g H.size N (xs (i + 1).toNatClampNeg) (xs (i + 2).toNatClampNeg) (xs (i + 3).toNatClampNeg) R hl0 hk hE0) (vx_cwSW 5 hts gL_law_L_setSink rfl rfl rfl (by decide +kernel) ⟨(Nat.le_of_ble_eq_true rfl), (Nat.le_of_ble_eq_true rfl)⟩) ⟨hp_blind, fun U hU hW => ⟨rfl, ⟨mp_at hZ hS hPx hK hDx hFx hU hW (Or.inr rfl), by rw [hU]; exact px_at hT hS hW hFx⟩, ncs_moved hW.alike hNc⟩⟩ rfl rfl hl.1 rfl (lv_room (Nat.le_of_ble_eq_true rfl)) dL_law_512 ⟨(by show cells + 3 ≤ 601024; omega), (by show slots + 18 ≤ 7293034; omega)⟩) hS hFx (fun z1 f1 H1 locs1 hf1 hP1 hD1 hz1 hk1 hS1 => ?_)
  obtain ⟨hP, hD⟩ := wj hP hD (fun q h => Nat.le_trans hS.1 h) hP1 hD1 hk1
  have hS := hS1
  have hS0 := hS1
  obtain ⟨kv, ekv⟩ : ∃ v, v = kR ["java/lang/IndexOutOfBoundsException", "java/lang/IllegalArgumentException", "java/lang/IllegalStateException"] R := ⟨_, rfl⟩
  rw [← ekv]
  refine lv_istore (lv' := [(5, .int kv), (4, .int i), (0, .ref b), (1, .ref qk), (2, .ref hm), (3, .ref qo)]) hx hb dL_law_515 hl (by decide) rfl (fun ls hl => ?_)
  refine lv_aload_n hx hb dL_law_517 rfl (lv_at hl 4 rfl) ?_
  refine lv_aload_n hx hb dL_law_518 rfl (lv_at hl 2 rfl) ?_
  refine lv_iload hx hb dL_law_519 (lv_at hl 1 rfl) ?_
  refine lv_iconst (v := 1) hx hb dL_law_521 (by decide) ?_
  refine lv_iadd hx hb dL_law_522 ?_
  refine va_sld hx hb hX hbl hbA hS (hi 1 (by decide)) dL_law_523 ?_
  refine lv_aload_n hx hb dL_law_524 rfl (lv_at hl 2 rfl) ?_
  refine lv_iload hx hb dL_law_525 (lv_at hl 1 rfl) ?_
  refine lv_iconst (v := 2) hx hb dL_law_527 (by decide) ?_
  refine lv_iadd hx hb dL_law_528 ?_
  refine va_sld hx hb hX hbl hbA hS (hi 2 (by decide)) dL_law_529 ?_
  refine lv_aload_n hx hb dL_law_530 rfl (lv_at hl 2 rfl) ?_
  refine lv_iload hx hb dL_law_531 (lv_at hl 1 rfl) ?_
  refine lv_iconst (v := 3) hx hb dL_law_533 (by decide) ?_
  refine lv_iadd hx hb dL_law_534 ?_
  refine va_sld hx hb hX hbl hbA hS (hi 3 (by decide)) dL_law_535 ?_
  have hPy := wp_r hP
  have hDy := wd_r hD
  have hFy : ∀ q, va_A (YW cI cJ hm y μ) H1.size q → s.heap.size ≤ q := va_A_of hDy hS hA
  refine va_calli (va_runV (As := [.int (xs (i + 1).toNatClampNeg), .int (xs (i + 2).toNatClampNeg), .int (xs (i + 3).toNatClampNeg)]) (rest := []) ⟨hx, hb, hml, hown, hts⟩ (v_setSink l D cI cJ cO hm y μ H1.size N (xs (i + 1).toNatClampNeg) (xs (i + 2).toNatClampNeg) (xs (i + 3).toNatClampNeg) r hm5) (cwV 3 hts gL_law_X5_setSink rfl rfl rfl (by decide +kernel) ⟨(Nat.le_of_ble_eq_true rfl), (Nat.le_of_ble_eq_true rfl)⟩) ⟨mp_blind, va_recv hK hPy (ci := 4) (q0 := 0) rfl rfl, fun U hU hW => ⟨rfl, mp_at hZ hS hPy hK hDy hFy hU hW (Or.inl rfl)⟩⟩ rfl rfl hl.1 rfl (lv_room (Nat.le_of_ble_eq_true rfl)) dL_law_536 ⟨(by show cells + 3 + 0 ≤ 601024; omega), (by show slots + 18 + 0 ≤ 7293034; omega)⟩) hS (fun q _ h => hFy q h) hFy (fun rv u5 t H2 locs2 ht9 hvm hw hBx hz2 hk2 hS => ?_)
  subst hw
  obtain ⟨hP2, hD2⟩ := hBx
  rw [ht9] at hP2
  obtain ⟨hP, hD⟩ := wjr hP hD (fun q h => Nat.le_trans hS0.1 h) hP2 hD2 hk2
  refine lv_istore (lv' := [(6, .int r.1), (5, .int kv), (4, .int i), (0, .ref b), (1, .ref qk), (2, .ref hm), (3, .ref qo)]) hx hb dL_law_539 hl (by decide) rfl (fun ls hl => ?_)
  refine lv_aload_n hx hb dL_law_541 rfl (lv_at hl 5 rfl) ?_
  have hPy := wp_r hP
  refine cSi (W.runV (As := []) (rest := []) ⟨hx, hb, hml, hown, hts⟩ (m_X5_thrown l D cI cJ cO hm y.1 y.2.1 y.2.2.1 y.2.2.2 r.2.1 r.2.2.1 r.2.2.2.1 r.2.2.2.2.1 r.2.2.2.2.2.1 r.2.2.2.2.2.2 (r.2.1 0) rfl) (cwV 0 hts gL_law_X5_thrown rfl rfl rfl (by decide +kernel) ⟨(Nat.le_of_ble_eq_true rfl), (Nat.le_of_ble_eq_true rfl)⟩) ⟨pw_blind, va_recv hK hPy (ci := 4) (q0 := 0) rfl rfl, fun U hU hW => ⟨rfl, pw_at hZ hS hPy hK hU hW (Or.inl rfl) [0, 1, 2, 3, 4] rfl⟩⟩ rfl rfl hl.1 rfl (lv_room (Nat.le_of_ble_eq_true rfl)) dL_law_542 ⟨(by show cells + 3 ≤ 601024; omega), (by show slots + 18 ≤ 7293034; omega)⟩) ?_
  refine lv_iload hx hb dL_law_545 (lv_at hl 1 rfl) ?_
  refine lv_icmp_eq (tgt := 552) hx hb dL_law_547 (by decide) (fun _ => ?_) (fun c0 => absurd (ha.trans ekv.symm) c0)
  refine lv_iload hx hb dL_law_552 (lv_at hl 1 rfl) ?_
  refine lv_if_ne (tgt := 569) hx hb dL_law_554 (by decide) (fun _ => ?_) (fun c0 => ?_)
  · refine lv_goto (tgt := 1686) hx hb dL_law_569 (by decide) ?_
    exact kk _ _ _ _ _ hP hD hS (lv_sub hl [2, 3, 4, 5, 6] rfl)
  · rcases hR : R with u | E0
    · have hfv := hf1 u hR
      have hve := hv u hR
      have hPx := wp_l hP
      refine lv_aload_n hx hb dL_law_557 rfl (lv_at hl 6 rfl) ?_
      refine lv_iconst (v := 0) hx hb dL_law_558 (by decide) ?_
      refine va_lald hx hb hK hPx 0 1 rfl rfl in01 dL_law_559 ?_
      refine lv_iload hx hb dL_law_560 (lv_at hl 0 rfl) ?_
      refine lv_i2l hx hb dL_law_562 rfl ?_
      refine W.lcmp hx hb dL_law_563 ?_
      refine lv_if_eq (tgt := 569) hx hb dL_law_564 (by decide) (fun _ => ?_) (fun c1 => absurd ((lg_cmp_eq _ _).mpr (hfv.trans hve)) c1)
      refine lv_goto (tgt := 1686) hx hb dL_law_569 (by decide) ?_
      exact kk _ _ _ _ _ hP hD hS (lv_sub hl [2, 3, 4, 5, 6] rfl)
    · have hm9 := hE0 E0 hR
      have h9 : kR ["java/lang/IndexOutOfBoundsException", "java/lang/IllegalArgumentException", "java/lang/IllegalStateException"] R = 0 := ekv.symm.trans c0
      rw [hR] at h9
      simp only [List.mem_cons, List.not_mem_nil, or_false] at hm9
      rcases hm9 with rfl | rfl | rfl <;> exact absurd h9 (by decide)
set_option maxHeartbeats 4000000 in
set_option maxRecDepth 100000 in
theorem lc_setCall {p : Program} {l : Launch} {e : Env} {s : State} {m : MethodId} {below : List Frame} {meth : Method} {c : Code} {b L : Nat} {xs : Nat → Int32} {D : va_G} {cI cJ cO : ClassId} {ah : Nat} (E : LE p s l m meth c b L xs D cI cJ cO ah) {Q : State → Prop} {N : Nat} {qk qo hm : Nat} {i : Int32} (hi : ∀ k : Int32, k ∈ [1, 2, 3, 4, 5] → vp_in (i + k) L) {cells slots : Nat} (hc : cells + 9 ≤ 601024) (hs : slots + 182 ≤ 7293034) {H : Heap} {locs : List Loc} {z : AZ} {f : Nat → Int64} {g : SG} {y : Nat × Nat × Nat × Nat} {μ : SM} (hP : va_P D vwCl (WL cI cJ cO qk qo hm z f g y μ) H) (hD : va_D (fun q => s.heap.size ≤ q) (WL cI cJ cO qk qo hm z f g y μ)) (hS : va_S (fun q => s.heap.size ≤ q) s.heap H locs) {ls : Array Slot} (hl : lv_has ls 9 [(4, .int i), (0, .ref b), (1, .ref qk), (2, .ref hm), (3, .ref qo)]) {R : (Int32 × SG) ⊕ String} {r : Int32 × SM} (hk : k_setCall N g (xs (i + 1).toNatClampNeg) (xs (i + 2).toNatClampNeg) (xs (i + 3).toNatClampNeg) = some R) (hm5 : q_setCall N μ (xs (i + 1).toNatClampNeg) (xs (i + 2).toNatClampNeg) (xs (i + 3).toNatClampNeg) = some r) (hE0 : ∀ E, R = .inr E → E ∈ ["java/lang/IndexOutOfBoundsException", "java/lang/IllegalArgumentException", "java/lang/IllegalStateException"]) (ha : r.2.1 0 = kR ["java/lang/IndexOutOfBoundsException", "java/lang/IllegalArgumentException", "java/lang/IllegalStateException"] R) (hv : ∀ u, R = .inl u → u.1.toInt64 = r.1.toInt64) (kk : ∀ (z1 : AZ) (f1 : Nat → Int64) (H1 : Heap) (locs1 : List Loc) (ls1 : Array Slot), va_P D vwCl (WL cI cJ cO qk qo hm z1 f1 (gR g R) y r.2) H1 → va_D (fun q => s.heap.size ≤ q) (WL cI cJ cO qk qo hm z1 f1 (gR g R) y r.2) → va_S (fun q => s.heap.size ≤ q) s.heap H1 locs1 → lv_has ls1 9 [(4, .int i), (0, .ref b), (1, .ref qk), (2, .ref hm), (3, .ref qo)] → W p l e room_1 s m #[.ref b] below meth c H1 locs1 (cells + 3) (slots + 18) Q (F0 m 1686 ls1 [])) : W p l e room_1 s m #[.ref b] below meth c H locs cells slots Q (F0 m 572 ls []) := by
  obtain ⟨hx, hb, hml, hown, hts, hX, hbl, hK, hZ, hT, hNc, hl0⟩ := E
  have hA : ∀ q : Nat, s.heap.size ≤ q → (fun q : Nat => s.heap.size ≤ q) q := fun _ h => h
  have hbA : ¬ (fun q : Nat => s.heap.size ≤ q) b := Nat.not_le.mpr hbl
  refine lv_aload_n hx hb dL_law_572 rfl (lv_at hl 2 rfl) ?_
  refine lv_aload_n hx hb dL_law_573 rfl (lv_at hl 1 rfl) ?_
  refine lv_iload hx hb dL_law_574 (lv_at hl 0 rfl) ?_
  refine lv_iconst (v := 1) hx hb dL_law_576 (by decide) ?_
  refine lv_iadd hx hb dL_law_577 ?_
  refine va_sld hx hb hX hbl hbA hS (hi 1 (by decide)) dL_law_578 ?_
  refine lv_aload_n hx hb dL_law_579 rfl (lv_at hl 1 rfl) ?_
  refine lv_iload hx hb dL_law_580 (lv_at hl 0 rfl) ?_
  refine lv_iconst (v := 2) hx hb dL_law_582 (by decide) ?_
  refine lv_iadd hx hb dL_law_583 ?_
  refine va_sld hx hb hX hbl hbA hS (hi 2 (by decide)) dL_law_584 ?_
  refine lv_aload_n hx hb dL_law_585 rfl (lv_at hl 1 rfl) ?_
  refine lv_iload hx hb dL_law_586 (lv_at hl 0 rfl) ?_
  refine lv_iconst (v := 3) hx hb dL_law_588 (by decide) ?_
  refine lv_iadd hx hb dL_law_589 ?_
  refine va_sld hx hb hX hbl hbA hS (hi 3 (by decide)) dL_law_590 ?_
  refine lv_aload_n hx hb dL_law_591 rfl (lv_at hl 4 rfl) ?_
  have hPx := wp_l hP
  have hDx := wd_l hD
  have hFx : ∀ q, va_A (XW cI cJ cO qk qo z f g) H.size q → s.heap.size ≤ q := va_A_of hDx hS hA
  refine xH (vx_runSW (As := [.ref qk, .int (xs (i + 1).toNatClampNeg), .int (xs (i + 2).toNatClampNeg), .int (xs (i + 3).toNatClampNeg), .ref qo]) (rest := []) ⟨hx, hb, hml, hown, hts⟩ (h_setCall l D cI cJ cO ah qk qo f z g H.size N (xs (i + 1).toNatClampNeg) (xs (i + 2).toNatClampNeg) (xs (i + 3).toNatClampNeg) R hl0 hk hE0) (vx_cwSW 5 hts gL_law_L_setCall rfl rfl rfl (by decide +kernel) ⟨(Nat.le_of_ble_eq_true rfl), (Nat.le_of_ble_eq_true rfl)⟩) ⟨hp_blind, fun U hU hW => ⟨rfl, ⟨mp_at hZ hS hPx hK hDx hFx hU hW (Or.inr rfl), by rw [hU]; exact px_at hT hS hW hFx⟩, ncs_moved hW.alike hNc⟩⟩ rfl rfl hl.1 rfl (lv_room (Nat.le_of_ble_eq_true rfl)) dL_law_592 ⟨(by show cells + 3 ≤ 601024; omega), (by show slots + 18 ≤ 7293034; omega)⟩) hS hFx (fun z1 f1 H1 locs1 hf1 hP1 hD1 hz1 hk1 hS1 => ?_)
  obtain ⟨hP, hD⟩ := wj hP hD (fun q h => Nat.le_trans hS.1 h) hP1 hD1 hk1
  have hS := hS1
  have hS0 := hS1
  obtain ⟨kv, ekv⟩ : ∃ v, v = kR ["java/lang/IndexOutOfBoundsException", "java/lang/IllegalArgumentException", "java/lang/IllegalStateException"] R := ⟨_, rfl⟩
  rw [← ekv]
  refine lv_istore (lv' := [(5, .int kv), (4, .int i), (0, .ref b), (1, .ref qk), (2, .ref hm), (3, .ref qo)]) hx hb dL_law_595 hl (by decide) rfl (fun ls hl => ?_)
  refine lv_aload_n hx hb dL_law_597 rfl (lv_at hl 4 rfl) ?_
  refine lv_aload_n hx hb dL_law_598 rfl (lv_at hl 2 rfl) ?_
  refine lv_iload hx hb dL_law_599 (lv_at hl 1 rfl) ?_
  refine lv_iconst (v := 1) hx hb dL_law_601 (by decide) ?_
  refine lv_iadd hx hb dL_law_602 ?_
  refine va_sld hx hb hX hbl hbA hS (hi 1 (by decide)) dL_law_603 ?_
  refine lv_aload_n hx hb dL_law_604 rfl (lv_at hl 2 rfl) ?_
  refine lv_iload hx hb dL_law_605 (lv_at hl 1 rfl) ?_
  refine lv_iconst (v := 2) hx hb dL_law_607 (by decide) ?_
  refine lv_iadd hx hb dL_law_608 ?_
  refine va_sld hx hb hX hbl hbA hS (hi 2 (by decide)) dL_law_609 ?_
  refine lv_aload_n hx hb dL_law_610 rfl (lv_at hl 2 rfl) ?_
  refine lv_iload hx hb dL_law_611 (lv_at hl 1 rfl) ?_
  refine lv_iconst (v := 3) hx hb dL_law_613 (by decide) ?_
  refine lv_iadd hx hb dL_law_614 ?_
  refine va_sld hx hb hX hbl hbA hS (hi 3 (by decide)) dL_law_615 ?_
  have hPy := wp_r hP
  have hDy := wd_r hD
  have hFy : ∀ q, va_A (YW cI cJ hm y μ) H1.size q → s.heap.size ≤ q := va_A_of hDy hS hA
  refine va_calli (va_runV (As := [.int (xs (i + 1).toNatClampNeg), .int (xs (i + 2).toNatClampNeg), .int (xs (i + 3).toNatClampNeg)]) (rest := []) ⟨hx, hb, hml, hown, hts⟩ (v_setCall l D cI cJ cO hm y μ H1.size N (xs (i + 1).toNatClampNeg) (xs (i + 2).toNatClampNeg) (xs (i + 3).toNatClampNeg) r hm5) (cwV 3 hts gL_law_X5_setCall rfl rfl rfl (by decide +kernel) ⟨(Nat.le_of_ble_eq_true rfl), (Nat.le_of_ble_eq_true rfl)⟩) ⟨mp_blind, va_recv hK hPy (ci := 4) (q0 := 0) rfl rfl, fun U hU hW => ⟨rfl, mp_at hZ hS hPy hK hDy hFy hU hW (Or.inl rfl)⟩⟩ rfl rfl hl.1 rfl (lv_room (Nat.le_of_ble_eq_true rfl)) dL_law_616 ⟨(by show cells + 3 + 0 ≤ 601024; omega), (by show slots + 18 + 0 ≤ 7293034; omega)⟩) hS (fun q _ h => hFy q h) hFy (fun rv u5 t H2 locs2 ht9 hvm hw hBx hz2 hk2 hS => ?_)
  subst hw
  obtain ⟨hP2, hD2⟩ := hBx
  rw [ht9] at hP2
  obtain ⟨hP, hD⟩ := wjr hP hD (fun q h => Nat.le_trans hS0.1 h) hP2 hD2 hk2
  refine lv_istore (lv' := [(6, .int r.1), (5, .int kv), (4, .int i), (0, .ref b), (1, .ref qk), (2, .ref hm), (3, .ref qo)]) hx hb dL_law_619 hl (by decide) rfl (fun ls hl => ?_)
  refine lv_aload_n hx hb dL_law_621 rfl (lv_at hl 5 rfl) ?_
  have hPy := wp_r hP
  refine cSi (W.runV (As := []) (rest := []) ⟨hx, hb, hml, hown, hts⟩ (m_X5_thrown l D cI cJ cO hm y.1 y.2.1 y.2.2.1 y.2.2.2 r.2.1 r.2.2.1 r.2.2.2.1 r.2.2.2.2.1 r.2.2.2.2.2.1 r.2.2.2.2.2.2 (r.2.1 0) rfl) (cwV 0 hts gL_law_X5_thrown rfl rfl rfl (by decide +kernel) ⟨(Nat.le_of_ble_eq_true rfl), (Nat.le_of_ble_eq_true rfl)⟩) ⟨pw_blind, va_recv hK hPy (ci := 4) (q0 := 0) rfl rfl, fun U hU hW => ⟨rfl, pw_at hZ hS hPy hK hU hW (Or.inl rfl) [0, 1, 2, 3, 4] rfl⟩⟩ rfl rfl hl.1 rfl (lv_room (Nat.le_of_ble_eq_true rfl)) dL_law_622 ⟨(by show cells + 3 ≤ 601024; omega), (by show slots + 18 ≤ 7293034; omega)⟩) ?_
  refine lv_iload hx hb dL_law_625 (lv_at hl 1 rfl) ?_
  refine lv_icmp_eq (tgt := 632) hx hb dL_law_627 (by decide) (fun _ => ?_) (fun c0 => absurd (ha.trans ekv.symm) c0)
  refine lv_iload hx hb dL_law_632 (lv_at hl 1 rfl) ?_
  refine lv_if_ne (tgt := 649) hx hb dL_law_634 (by decide) (fun _ => ?_) (fun c0 => ?_)
  · refine lv_goto (tgt := 1686) hx hb dL_law_649 (by decide) ?_
    exact kk _ _ _ _ _ hP hD hS (lv_sub hl [2, 3, 4, 5, 6] rfl)
  · rcases hR : R with u | E0
    · have hfv := hf1 u hR
      have hve := hv u hR
      have hPx := wp_l hP
      refine lv_aload_n hx hb dL_law_637 rfl (lv_at hl 6 rfl) ?_
      refine lv_iconst (v := 0) hx hb dL_law_638 (by decide) ?_
      refine va_lald hx hb hK hPx 0 1 rfl rfl in01 dL_law_639 ?_
      refine lv_iload hx hb dL_law_640 (lv_at hl 0 rfl) ?_
      refine lv_i2l hx hb dL_law_642 rfl ?_
      refine W.lcmp hx hb dL_law_643 ?_
      refine lv_if_eq (tgt := 649) hx hb dL_law_644 (by decide) (fun _ => ?_) (fun c1 => absurd ((lg_cmp_eq _ _).mpr (hfv.trans hve)) c1)
      refine lv_goto (tgt := 1686) hx hb dL_law_649 (by decide) ?_
      exact kk _ _ _ _ _ hP hD hS (lv_sub hl [2, 3, 4, 5, 6] rfl)
    · have hm9 := hE0 E0 hR
      have h9 : kR ["java/lang/IndexOutOfBoundsException", "java/lang/IllegalArgumentException", "java/lang/IllegalStateException"] R = 0 := ekv.symm.trans c0
      rw [hR] at h9
      simp only [List.mem_cons, List.not_mem_nil, or_false] at hm9
      rcases hm9 with rfl | rfl | rfl <;> exact absurd h9 (by decide)
set_option maxHeartbeats 4000000 in
set_option maxRecDepth 100000 in
theorem lc_setRate {p : Program} {l : Launch} {e : Env} {s : State} {m : MethodId} {below : List Frame} {meth : Method} {c : Code} {b L : Nat} {xs : Nat → Int32} {D : va_G} {cI cJ cO : ClassId} {ah : Nat} (E : LE p s l m meth c b L xs D cI cJ cO ah) {Q : State → Prop} {N : Nat} {qk qo hm : Nat} {i : Int32} (hi : ∀ k : Int32, k ∈ [1, 2, 3, 4, 5] → vp_in (i + k) L) {cells slots : Nat} (hc : cells + 9 ≤ 601024) (hs : slots + 182 ≤ 7293034) {H : Heap} {locs : List Loc} {z : AZ} {f : Nat → Int64} {g : SG} {y : Nat × Nat × Nat × Nat} {μ : SM} (hP : va_P D vwCl (WL cI cJ cO qk qo hm z f g y μ) H) (hD : va_D (fun q => s.heap.size ≤ q) (WL cI cJ cO qk qo hm z f g y μ)) (hS : va_S (fun q => s.heap.size ≤ q) s.heap H locs) {ls : Array Slot} (hl : lv_has ls 9 [(4, .int i), (0, .ref b), (1, .ref qk), (2, .ref hm), (3, .ref qo)]) {R : (Int32 × SG) ⊕ String} {r : Int32 × SM} (hk : k_setRate N g (xs (i + 1).toNatClampNeg) = some R) (hm5 : q_setRate N μ (xs (i + 1).toNatClampNeg) = some r) (hE0 : ∀ E, R = .inr E → E ∈ ["java/lang/IllegalArgumentException"]) (ha : r.2.1 0 = kR ["java/lang/IllegalArgumentException"] R) (hv : ∀ u, R = .inl u → u.1.toInt64 = r.1.toInt64) (kk : ∀ (z1 : AZ) (f1 : Nat → Int64) (H1 : Heap) (locs1 : List Loc) (ls1 : Array Slot), va_P D vwCl (WL cI cJ cO qk qo hm z1 f1 (gR g R) y r.2) H1 → va_D (fun q => s.heap.size ≤ q) (WL cI cJ cO qk qo hm z1 f1 (gR g R) y r.2) → va_S (fun q => s.heap.size ≤ q) s.heap H1 locs1 → lv_has ls1 9 [(4, .int i), (0, .ref b), (1, .ref qk), (2, .ref hm), (3, .ref qo)] → W p l e room_1 s m #[.ref b] below meth c H1 locs1 (cells + 1) (slots + 6) Q (F0 m 1686 ls1 [])) : W p l e room_1 s m #[.ref b] below meth c H locs cells slots Q (F0 m 652 ls []) := by
  obtain ⟨hx, hb, hml, hown, hts, hX, hbl, hK, hZ, hT, hNc, hl0⟩ := E
  have hA : ∀ q : Nat, s.heap.size ≤ q → (fun q : Nat => s.heap.size ≤ q) q := fun _ h => h
  have hbA : ¬ (fun q : Nat => s.heap.size ≤ q) b := Nat.not_le.mpr hbl
  refine lv_aload_n hx hb dL_law_652 rfl (lv_at hl 2 rfl) ?_
  refine lv_aload_n hx hb dL_law_653 rfl (lv_at hl 1 rfl) ?_
  refine lv_iload hx hb dL_law_654 (lv_at hl 0 rfl) ?_
  refine lv_iconst (v := 1) hx hb dL_law_656 (by decide) ?_
  refine lv_iadd hx hb dL_law_657 ?_
  refine va_sld hx hb hX hbl hbA hS (hi 1 (by decide)) dL_law_658 ?_
  refine lv_aload_n hx hb dL_law_659 rfl (lv_at hl 4 rfl) ?_
  have hPx := wp_l hP
  have hDx := wd_l hD
  have hFx : ∀ q, va_A (XW cI cJ cO qk qo z f g) H.size q → s.heap.size ≤ q := va_A_of hDx hS hA
  refine xH (vx_runSW (As := [.ref qk, .int (xs (i + 1).toNatClampNeg), .ref qo]) (rest := []) ⟨hx, hb, hml, hown, hts⟩ (h_setRate l D cI cJ cO ah qk qo f z g H.size N (xs (i + 1).toNatClampNeg) R hl0 hk hE0) (vx_cwSW 3 hts gL_law_L_setRate rfl rfl rfl (by decide +kernel) ⟨(Nat.le_of_ble_eq_true rfl), (Nat.le_of_ble_eq_true rfl)⟩) ⟨hp_blind, fun U hU hW => ⟨rfl, ⟨mp_at hZ hS hPx hK hDx hFx hU hW (Or.inr rfl), by rw [hU]; exact px_at hT hS hW hFx⟩, ncs_moved hW.alike hNc⟩⟩ rfl rfl hl.1 rfl (lv_room (Nat.le_of_ble_eq_true rfl)) dL_law_660 ⟨(by show cells + 1 ≤ 601024; omega), (by show slots + 6 ≤ 7293034; omega)⟩) hS hFx (fun z1 f1 H1 locs1 hf1 hP1 hD1 hz1 hk1 hS1 => ?_)
  obtain ⟨hP, hD⟩ := wj hP hD (fun q h => Nat.le_trans hS.1 h) hP1 hD1 hk1
  have hS := hS1
  have hS0 := hS1
  obtain ⟨kv, ekv⟩ : ∃ v, v = kR ["java/lang/IllegalArgumentException"] R := ⟨_, rfl⟩
  rw [← ekv]
  refine lv_istore (lv' := [(5, .int kv), (4, .int i), (0, .ref b), (1, .ref qk), (2, .ref hm), (3, .ref qo)]) hx hb dL_law_663 hl (by decide) rfl (fun ls hl => ?_)
  refine lv_aload_n hx hb dL_law_665 rfl (lv_at hl 4 rfl) ?_
  refine lv_aload_n hx hb dL_law_666 rfl (lv_at hl 2 rfl) ?_
  refine lv_iload hx hb dL_law_667 (lv_at hl 1 rfl) ?_
  refine lv_iconst (v := 1) hx hb dL_law_669 (by decide) ?_
  refine lv_iadd hx hb dL_law_670 ?_
  refine va_sld hx hb hX hbl hbA hS (hi 1 (by decide)) dL_law_671 ?_
  have hPy := wp_r hP
  have hDy := wd_r hD
  have hFy : ∀ q, va_A (YW cI cJ hm y μ) H1.size q → s.heap.size ≤ q := va_A_of hDy hS hA
  refine va_calli (va_runV (As := [.int (xs (i + 1).toNatClampNeg)]) (rest := []) ⟨hx, hb, hml, hown, hts⟩ (v_setRate l D cI cJ cO hm y μ H1.size N (xs (i + 1).toNatClampNeg) r hm5) (cwV 1 hts gL_law_X5_setRate rfl rfl rfl (by decide +kernel) ⟨(Nat.le_of_ble_eq_true rfl), (Nat.le_of_ble_eq_true rfl)⟩) ⟨mp_blind, va_recv hK hPy (ci := 4) (q0 := 0) rfl rfl, fun U hU hW => ⟨rfl, mp_at hZ hS hPy hK hDy hFy hU hW (Or.inl rfl)⟩⟩ rfl rfl hl.1 rfl (lv_room (Nat.le_of_ble_eq_true rfl)) dL_law_672 ⟨(by show cells + 1 + 0 ≤ 601024; omega), (by show slots + 6 + 0 ≤ 7293034; omega)⟩) hS (fun q _ h => hFy q h) hFy (fun rv u5 t H2 locs2 ht9 hvm hw hBx hz2 hk2 hS => ?_)
  subst hw
  obtain ⟨hP2, hD2⟩ := hBx
  rw [ht9] at hP2
  obtain ⟨hP, hD⟩ := wjr hP hD (fun q h => Nat.le_trans hS0.1 h) hP2 hD2 hk2
  refine lv_istore (lv' := [(6, .int r.1), (5, .int kv), (4, .int i), (0, .ref b), (1, .ref qk), (2, .ref hm), (3, .ref qo)]) hx hb dL_law_675 hl (by decide) rfl (fun ls hl => ?_)
  refine lv_aload_n hx hb dL_law_677 rfl (lv_at hl 5 rfl) ?_
  have hPy := wp_r hP
  refine cSi (W.runV (As := []) (rest := []) ⟨hx, hb, hml, hown, hts⟩ (m_X5_thrown l D cI cJ cO hm y.1 y.2.1 y.2.2.1 y.2.2.2 r.2.1 r.2.2.1 r.2.2.2.1 r.2.2.2.2.1 r.2.2.2.2.2.1 r.2.2.2.2.2.2 (r.2.1 0) rfl) (cwV 0 hts gL_law_X5_thrown rfl rfl rfl (by decide +kernel) ⟨(Nat.le_of_ble_eq_true rfl), (Nat.le_of_ble_eq_true rfl)⟩) ⟨pw_blind, va_recv hK hPy (ci := 4) (q0 := 0) rfl rfl, fun U hU hW => ⟨rfl, pw_at hZ hS hPy hK hU hW (Or.inl rfl) [0, 1, 2, 3, 4] rfl⟩⟩ rfl rfl hl.1 rfl (lv_room (Nat.le_of_ble_eq_true rfl)) dL_law_678 ⟨(by show cells + 1 ≤ 601024; omega), (by show slots + 6 ≤ 7293034; omega)⟩) ?_
  refine lv_iload hx hb dL_law_681 (lv_at hl 1 rfl) ?_
  refine lv_icmp_eq (tgt := 688) hx hb dL_law_683 (by decide) (fun _ => ?_) (fun c0 => absurd (ha.trans ekv.symm) c0)
  refine lv_iload hx hb dL_law_688 (lv_at hl 1 rfl) ?_
  refine lv_if_ne (tgt := 705) hx hb dL_law_690 (by decide) (fun _ => ?_) (fun c0 => ?_)
  · refine lv_goto (tgt := 1686) hx hb dL_law_705 (by decide) ?_
    exact kk _ _ _ _ _ hP hD hS (lv_sub hl [2, 3, 4, 5, 6] rfl)
  · rcases hR : R with u | E0
    · have hfv := hf1 u hR
      have hve := hv u hR
      have hPx := wp_l hP
      refine lv_aload_n hx hb dL_law_693 rfl (lv_at hl 6 rfl) ?_
      refine lv_iconst (v := 0) hx hb dL_law_694 (by decide) ?_
      refine va_lald hx hb hK hPx 0 1 rfl rfl in01 dL_law_695 ?_
      refine lv_iload hx hb dL_law_696 (lv_at hl 0 rfl) ?_
      refine lv_i2l hx hb dL_law_698 rfl ?_
      refine W.lcmp hx hb dL_law_699 ?_
      refine lv_if_eq (tgt := 705) hx hb dL_law_700 (by decide) (fun _ => ?_) (fun c1 => absurd ((lg_cmp_eq _ _).mpr (hfv.trans hve)) c1)
      refine lv_goto (tgt := 1686) hx hb dL_law_705 (by decide) ?_
      exact kk _ _ _ _ _ hP hD hS (lv_sub hl [2, 3, 4, 5, 6] rfl)
    · have hm9 := hE0 E0 hR
      have h9 : kR ["java/lang/IllegalArgumentException"] R = 0 := ekv.symm.trans c0
      rw [hR] at h9
      simp only [List.mem_cons, List.not_mem_nil, or_false] at hm9
      subst hm9; exact absurd h9 (by decide)
set_option maxHeartbeats 4000000 in
set_option maxRecDepth 100000 in
theorem lc_bond {p : Program} {l : Launch} {e : Env} {s : State} {m : MethodId} {below : List Frame} {meth : Method} {c : Code} {b L : Nat} {xs : Nat → Int32} {D : va_G} {cI cJ cO : ClassId} {ah : Nat} (E : LE p s l m meth c b L xs D cI cJ cO ah) {Q : State → Prop} {N : Nat} {qk qo hm : Nat} {i : Int32} (hi : ∀ k : Int32, k ∈ [1, 2, 3, 4, 5] → vp_in (i + k) L) {cells slots : Nat} (hc : cells + 9 ≤ 601024) (hs : slots + 182 ≤ 7293034) {H : Heap} {locs : List Loc} {z : AZ} {f : Nat → Int64} {g : SG} {y : Nat × Nat × Nat × Nat} {μ : SM} (hP : va_P D vwCl (WL cI cJ cO qk qo hm z f g y μ) H) (hD : va_D (fun q => s.heap.size ≤ q) (WL cI cJ cO qk qo hm z f g y μ)) (hS : va_S (fun q => s.heap.size ≤ q) s.heap H locs) {ls : Array Slot} (hl : lv_has ls 9 [(4, .int i), (0, .ref b), (1, .ref qk), (2, .ref hm), (3, .ref qo)]) {R : (Int32 × SG) ⊕ String} {r : Int32 × SM} (hk : k_bond N g (xs (i + 1).toNatClampNeg) (xs (i + 2).toNatClampNeg) = some R) (hm5 : q_bond N μ (xs (i + 1).toNatClampNeg) (xs (i + 2).toNatClampNeg) = some r) (hE0 : ∀ E, R = .inr E → E ∈ ["java/lang/IndexOutOfBoundsException"]) (ha : r.2.1 0 = kR ["java/lang/IndexOutOfBoundsException"] R) (hv : ∀ u, R = .inl u → u.1.toInt64 = r.1.toInt64) (kk : ∀ (z1 : AZ) (f1 : Nat → Int64) (H1 : Heap) (locs1 : List Loc) (ls1 : Array Slot), va_P D vwCl (WL cI cJ cO qk qo hm z1 f1 (gR g R) y r.2) H1 → va_D (fun q => s.heap.size ≤ q) (WL cI cJ cO qk qo hm z1 f1 (gR g R) y r.2) → va_S (fun q => s.heap.size ≤ q) s.heap H1 locs1 → lv_has ls1 9 [(4, .int i), (0, .ref b), (1, .ref qk), (2, .ref hm), (3, .ref qo)] → W p l e room_1 s m #[.ref b] below meth c H1 locs1 (cells + 2) (slots + 12) Q (F0 m 1686 ls1 [])) : W p l e room_1 s m #[.ref b] below meth c H locs cells slots Q (F0 m 708 ls []) := by
  obtain ⟨hx, hb, hml, hown, hts, hX, hbl, hK, hZ, hT, hNc, hl0⟩ := E
  have hA : ∀ q : Nat, s.heap.size ≤ q → (fun q : Nat => s.heap.size ≤ q) q := fun _ h => h
  have hbA : ¬ (fun q : Nat => s.heap.size ≤ q) b := Nat.not_le.mpr hbl
  refine lv_aload_n hx hb dL_law_708 rfl (lv_at hl 2 rfl) ?_
  refine lv_aload_n hx hb dL_law_709 rfl (lv_at hl 1 rfl) ?_
  refine lv_iload hx hb dL_law_710 (lv_at hl 0 rfl) ?_
  refine lv_iconst (v := 1) hx hb dL_law_712 (by decide) ?_
  refine lv_iadd hx hb dL_law_713 ?_
  refine va_sld hx hb hX hbl hbA hS (hi 1 (by decide)) dL_law_714 ?_
  refine lv_aload_n hx hb dL_law_715 rfl (lv_at hl 1 rfl) ?_
  refine lv_iload hx hb dL_law_716 (lv_at hl 0 rfl) ?_
  refine lv_iconst (v := 2) hx hb dL_law_718 (by decide) ?_
  refine lv_iadd hx hb dL_law_719 ?_
  refine va_sld hx hb hX hbl hbA hS (hi 2 (by decide)) dL_law_720 ?_
  refine lv_aload_n hx hb dL_law_721 rfl (lv_at hl 4 rfl) ?_
  have hPx := wp_l hP
  have hDx := wd_l hD
  have hFx : ∀ q, va_A (XW cI cJ cO qk qo z f g) H.size q → s.heap.size ≤ q := va_A_of hDx hS hA
  refine xH (vx_runSW (As := [.ref qk, .int (xs (i + 1).toNatClampNeg), .int (xs (i + 2).toNatClampNeg), .ref qo]) (rest := []) ⟨hx, hb, hml, hown, hts⟩ (h_bond l D cI cJ cO ah qk qo f z g H.size N (xs (i + 1).toNatClampNeg) (xs (i + 2).toNatClampNeg) R hl0 hk hE0) (vx_cwSW 4 hts gL_law_L_bond rfl rfl rfl (by decide +kernel) ⟨(Nat.le_of_ble_eq_true rfl), (Nat.le_of_ble_eq_true rfl)⟩) ⟨hp_blind, fun U hU hW => ⟨rfl, ⟨mp_at hZ hS hPx hK hDx hFx hU hW (Or.inr rfl), by rw [hU]; exact px_at hT hS hW hFx⟩, ncs_moved hW.alike hNc⟩⟩ rfl rfl hl.1 rfl (lv_room (Nat.le_of_ble_eq_true rfl)) dL_law_722 ⟨(by show cells + 2 ≤ 601024; omega), (by show slots + 12 ≤ 7293034; omega)⟩) hS hFx (fun z1 f1 H1 locs1 hf1 hP1 hD1 hz1 hk1 hS1 => ?_)
  obtain ⟨hP, hD⟩ := wj hP hD (fun q h => Nat.le_trans hS.1 h) hP1 hD1 hk1
  have hS := hS1
  have hS0 := hS1
  obtain ⟨kv, ekv⟩ : ∃ v, v = kR ["java/lang/IndexOutOfBoundsException"] R := ⟨_, rfl⟩
  rw [← ekv]
  refine lv_istore (lv' := [(5, .int kv), (4, .int i), (0, .ref b), (1, .ref qk), (2, .ref hm), (3, .ref qo)]) hx hb dL_law_725 hl (by decide) rfl (fun ls hl => ?_)
  refine lv_aload_n hx hb dL_law_727 rfl (lv_at hl 4 rfl) ?_
  refine lv_aload_n hx hb dL_law_728 rfl (lv_at hl 2 rfl) ?_
  refine lv_iload hx hb dL_law_729 (lv_at hl 1 rfl) ?_
  refine lv_iconst (v := 1) hx hb dL_law_731 (by decide) ?_
  refine lv_iadd hx hb dL_law_732 ?_
  refine va_sld hx hb hX hbl hbA hS (hi 1 (by decide)) dL_law_733 ?_
  refine lv_aload_n hx hb dL_law_734 rfl (lv_at hl 2 rfl) ?_
  refine lv_iload hx hb dL_law_735 (lv_at hl 1 rfl) ?_
  refine lv_iconst (v := 2) hx hb dL_law_737 (by decide) ?_
  refine lv_iadd hx hb dL_law_738 ?_
  refine va_sld hx hb hX hbl hbA hS (hi 2 (by decide)) dL_law_739 ?_
  have hPy := wp_r hP
  have hDy := wd_r hD
  have hFy : ∀ q, va_A (YW cI cJ hm y μ) H1.size q → s.heap.size ≤ q := va_A_of hDy hS hA
  refine va_calli (va_runV (As := [.int (xs (i + 1).toNatClampNeg), .int (xs (i + 2).toNatClampNeg)]) (rest := []) ⟨hx, hb, hml, hown, hts⟩ (v_bond l D cI cJ cO hm y μ H1.size N (xs (i + 1).toNatClampNeg) (xs (i + 2).toNatClampNeg) r hm5) (cwV 2 hts gL_law_X5_bond rfl rfl rfl (by decide +kernel) ⟨(Nat.le_of_ble_eq_true rfl), (Nat.le_of_ble_eq_true rfl)⟩) ⟨mp_blind, va_recv hK hPy (ci := 4) (q0 := 0) rfl rfl, fun U hU hW => ⟨rfl, mp_at hZ hS hPy hK hDy hFy hU hW (Or.inl rfl)⟩⟩ rfl rfl hl.1 rfl (lv_room (Nat.le_of_ble_eq_true rfl)) dL_law_740 ⟨(by show cells + 2 + 0 ≤ 601024; omega), (by show slots + 12 + 0 ≤ 7293034; omega)⟩) hS (fun q _ h => hFy q h) hFy (fun rv u5 t H2 locs2 ht9 hvm hw hBx hz2 hk2 hS => ?_)
  subst hw
  obtain ⟨hP2, hD2⟩ := hBx
  rw [ht9] at hP2
  obtain ⟨hP, hD⟩ := wjr hP hD (fun q h => Nat.le_trans hS0.1 h) hP2 hD2 hk2
  refine lv_istore (lv' := [(6, .int r.1), (5, .int kv), (4, .int i), (0, .ref b), (1, .ref qk), (2, .ref hm), (3, .ref qo)]) hx hb dL_law_743 hl (by decide) rfl (fun ls hl => ?_)
  refine lv_aload_n hx hb dL_law_745 rfl (lv_at hl 5 rfl) ?_
  have hPy := wp_r hP
  refine cSi (W.runV (As := []) (rest := []) ⟨hx, hb, hml, hown, hts⟩ (m_X5_thrown l D cI cJ cO hm y.1 y.2.1 y.2.2.1 y.2.2.2 r.2.1 r.2.2.1 r.2.2.2.1 r.2.2.2.2.1 r.2.2.2.2.2.1 r.2.2.2.2.2.2 (r.2.1 0) rfl) (cwV 0 hts gL_law_X5_thrown rfl rfl rfl (by decide +kernel) ⟨(Nat.le_of_ble_eq_true rfl), (Nat.le_of_ble_eq_true rfl)⟩) ⟨pw_blind, va_recv hK hPy (ci := 4) (q0 := 0) rfl rfl, fun U hU hW => ⟨rfl, pw_at hZ hS hPy hK hU hW (Or.inl rfl) [0, 1, 2, 3, 4] rfl⟩⟩ rfl rfl hl.1 rfl (lv_room (Nat.le_of_ble_eq_true rfl)) dL_law_746 ⟨(by show cells + 2 ≤ 601024; omega), (by show slots + 12 ≤ 7293034; omega)⟩) ?_
  refine lv_iload hx hb dL_law_749 (lv_at hl 1 rfl) ?_
  refine lv_icmp_eq (tgt := 756) hx hb dL_law_751 (by decide) (fun _ => ?_) (fun c0 => absurd (ha.trans ekv.symm) c0)
  refine lv_iload hx hb dL_law_756 (lv_at hl 1 rfl) ?_
  refine lv_if_ne (tgt := 773) hx hb dL_law_758 (by decide) (fun _ => ?_) (fun c0 => ?_)
  · refine lv_goto (tgt := 1686) hx hb dL_law_773 (by decide) ?_
    exact kk _ _ _ _ _ hP hD hS (lv_sub hl [2, 3, 4, 5, 6] rfl)
  · rcases hR : R with u | E0
    · have hfv := hf1 u hR
      have hve := hv u hR
      have hPx := wp_l hP
      refine lv_aload_n hx hb dL_law_761 rfl (lv_at hl 6 rfl) ?_
      refine lv_iconst (v := 0) hx hb dL_law_762 (by decide) ?_
      refine va_lald hx hb hK hPx 0 1 rfl rfl in01 dL_law_763 ?_
      refine lv_iload hx hb dL_law_764 (lv_at hl 0 rfl) ?_
      refine lv_i2l hx hb dL_law_766 rfl ?_
      refine W.lcmp hx hb dL_law_767 ?_
      refine lv_if_eq (tgt := 773) hx hb dL_law_768 (by decide) (fun _ => ?_) (fun c1 => absurd ((lg_cmp_eq _ _).mpr (hfv.trans hve)) c1)
      refine lv_goto (tgt := 1686) hx hb dL_law_773 (by decide) ?_
      exact kk _ _ _ _ _ hP hD hS (lv_sub hl [2, 3, 4, 5, 6] rfl)
    · have hm9 := hE0 E0 hR
      have h9 : kR ["java/lang/IndexOutOfBoundsException"] R = 0 := ekv.symm.trans c0
      rw [hR] at h9
      simp only [List.mem_cons, List.not_mem_nil, or_false] at hm9
      subst hm9; exact absurd h9 (by decide)
set_option maxHeartbeats 4000000 in
set_option maxRecDepth 100000 in
theorem lc_coupon {p : Program} {l : Launch} {e : Env} {s : State} {m : MethodId} {below : List Frame} {meth : Method} {c : Code} {b L : Nat} {xs : Nat → Int32} {D : va_G} {cI cJ cO : ClassId} {ah : Nat} (E : LE p s l m meth c b L xs D cI cJ cO ah) {Q : State → Prop} {N : Nat} {qk qo hm : Nat} {i : Int32} (hi : ∀ k : Int32, k ∈ [1, 2, 3, 4, 5] → vp_in (i + k) L) {cells slots : Nat} (hc : cells + 9 ≤ 601024) (hs : slots + 182 ≤ 7293034) {H : Heap} {locs : List Loc} {z : AZ} {f : Nat → Int64} {g : SG} {y : Nat × Nat × Nat × Nat} {μ : SM} (hP : va_P D vwCl (WL cI cJ cO qk qo hm z f g y μ) H) (hD : va_D (fun q => s.heap.size ≤ q) (WL cI cJ cO qk qo hm z f g y μ)) (hS : va_S (fun q => s.heap.size ≤ q) s.heap H locs) {ls : Array Slot} (hl : lv_has ls 9 [(4, .int i), (0, .ref b), (1, .ref qk), (2, .ref hm), (3, .ref qo)]) {R : (Int32 × SG) ⊕ String} {r : Int32 × SM} (hk : k_coupon N g (xs (i + 1).toNatClampNeg) (xs (i + 2).toNatClampNeg) (xs (i + 3).toNatClampNeg) = some R) (hm5 : q_coupon N μ (xs (i + 1).toNatClampNeg) (xs (i + 2).toNatClampNeg) (xs (i + 3).toNatClampNeg) = some r) (hE0 : ∀ E, R = .inr E → E ∈ ["java/lang/IndexOutOfBoundsException"]) (ha : r.2.1 0 = kR ["java/lang/IndexOutOfBoundsException"] R) (hv : ∀ u, R = .inl u → u.1.toInt64 = r.1.toInt64) (kk : ∀ (z1 : AZ) (f1 : Nat → Int64) (H1 : Heap) (locs1 : List Loc) (ls1 : Array Slot), va_P D vwCl (WL cI cJ cO qk qo hm z1 f1 (gR g R) y r.2) H1 → va_D (fun q => s.heap.size ≤ q) (WL cI cJ cO qk qo hm z1 f1 (gR g R) y r.2) → va_S (fun q => s.heap.size ≤ q) s.heap H1 locs1 → lv_has ls1 9 [(4, .int i), (0, .ref b), (1, .ref qk), (2, .ref hm), (3, .ref qo)] → W p l e room_1 s m #[.ref b] below meth c H1 locs1 (cells + 2) (slots + 12) Q (F0 m 1686 ls1 [])) : W p l e room_1 s m #[.ref b] below meth c H locs cells slots Q (F0 m 776 ls []) := by
  obtain ⟨hx, hb, hml, hown, hts, hX, hbl, hK, hZ, hT, hNc, hl0⟩ := E
  have hA : ∀ q : Nat, s.heap.size ≤ q → (fun q : Nat => s.heap.size ≤ q) q := fun _ h => h
  have hbA : ¬ (fun q : Nat => s.heap.size ≤ q) b := Nat.not_le.mpr hbl
  refine lv_aload_n hx hb dL_law_776 rfl (lv_at hl 2 rfl) ?_
  refine lv_aload_n hx hb dL_law_777 rfl (lv_at hl 1 rfl) ?_
  refine lv_iload hx hb dL_law_778 (lv_at hl 0 rfl) ?_
  refine lv_iconst (v := 1) hx hb dL_law_780 (by decide) ?_
  refine lv_iadd hx hb dL_law_781 ?_
  refine va_sld hx hb hX hbl hbA hS (hi 1 (by decide)) dL_law_782 ?_
  refine lv_aload_n hx hb dL_law_783 rfl (lv_at hl 1 rfl) ?_
  refine lv_iload hx hb dL_law_784 (lv_at hl 0 rfl) ?_
  refine lv_iconst (v := 2) hx hb dL_law_786 (by decide) ?_
  refine lv_iadd hx hb dL_law_787 ?_
  refine va_sld hx hb hX hbl hbA hS (hi 2 (by decide)) dL_law_788 ?_
  refine lv_aload_n hx hb dL_law_789 rfl (lv_at hl 1 rfl) ?_
  refine lv_iload hx hb dL_law_790 (lv_at hl 0 rfl) ?_
  refine lv_iconst (v := 3) hx hb dL_law_792 (by decide) ?_
  refine lv_iadd hx hb dL_law_793 ?_
  refine va_sld hx hb hX hbl hbA hS (hi 3 (by decide)) dL_law_794 ?_
  refine lv_aload_n hx hb dL_law_795 rfl (lv_at hl 4 rfl) ?_
  have hPx := wp_l hP
  have hDx := wd_l hD
  have hFx : ∀ q, va_A (XW cI cJ cO qk qo z f g) H.size q → s.heap.size ≤ q := va_A_of hDx hS hA
  refine xH (vx_runSW (As := [.ref qk, .int (xs (i + 1).toNatClampNeg), .int (xs (i + 2).toNatClampNeg), .int (xs (i + 3).toNatClampNeg), .ref qo]) (rest := []) ⟨hx, hb, hml, hown, hts⟩ (h_coupon l D cI cJ cO ah qk qo f z g H.size N (xs (i + 1).toNatClampNeg) (xs (i + 2).toNatClampNeg) (xs (i + 3).toNatClampNeg) R hl0 hk hE0) (vx_cwSW 5 hts gL_law_L_coupon rfl rfl rfl (by decide +kernel) ⟨(Nat.le_of_ble_eq_true rfl), (Nat.le_of_ble_eq_true rfl)⟩) ⟨hp_blind, fun U hU hW => ⟨rfl, ⟨mp_at hZ hS hPx hK hDx hFx hU hW (Or.inr rfl), by rw [hU]; exact px_at hT hS hW hFx⟩, ncs_moved hW.alike hNc⟩⟩ rfl rfl hl.1 rfl (lv_room (Nat.le_of_ble_eq_true rfl)) dL_law_796 ⟨(by show cells + 2 ≤ 601024; omega), (by show slots + 12 ≤ 7293034; omega)⟩) hS hFx (fun z1 f1 H1 locs1 hf1 hP1 hD1 hz1 hk1 hS1 => ?_)
  obtain ⟨hP, hD⟩ := wj hP hD (fun q h => Nat.le_trans hS.1 h) hP1 hD1 hk1
  have hS := hS1
  have hS0 := hS1
  obtain ⟨kv, ekv⟩ : ∃ v, v = kR ["java/lang/IndexOutOfBoundsException"] R := ⟨_, rfl⟩
  rw [← ekv]
  refine lv_istore (lv' := [(5, .int kv), (4, .int i), (0, .ref b), (1, .ref qk), (2, .ref hm), (3, .ref qo)]) hx hb dL_law_799 hl (by decide) rfl (fun ls hl => ?_)
  refine lv_aload_n hx hb dL_law_801 rfl (lv_at hl 4 rfl) ?_
  refine lv_aload_n hx hb dL_law_802 rfl (lv_at hl 2 rfl) ?_
  refine lv_iload hx hb dL_law_803 (lv_at hl 1 rfl) ?_
  refine lv_iconst (v := 1) hx hb dL_law_805 (by decide) ?_
  refine lv_iadd hx hb dL_law_806 ?_
  refine va_sld hx hb hX hbl hbA hS (hi 1 (by decide)) dL_law_807 ?_
  refine lv_aload_n hx hb dL_law_808 rfl (lv_at hl 2 rfl) ?_
  refine lv_iload hx hb dL_law_809 (lv_at hl 1 rfl) ?_
  refine lv_iconst (v := 2) hx hb dL_law_811 (by decide) ?_
  refine lv_iadd hx hb dL_law_812 ?_
  refine va_sld hx hb hX hbl hbA hS (hi 2 (by decide)) dL_law_813 ?_
  refine lv_aload_n hx hb dL_law_814 rfl (lv_at hl 2 rfl) ?_
  refine lv_iload hx hb dL_law_815 (lv_at hl 1 rfl) ?_
  refine lv_iconst (v := 3) hx hb dL_law_817 (by decide) ?_
  refine lv_iadd hx hb dL_law_818 ?_
  refine va_sld hx hb hX hbl hbA hS (hi 3 (by decide)) dL_law_819 ?_
  have hPy := wp_r hP
  have hDy := wd_r hD
  have hFy : ∀ q, va_A (YW cI cJ hm y μ) H1.size q → s.heap.size ≤ q := va_A_of hDy hS hA
  refine va_calli (va_runV (As := [.int (xs (i + 1).toNatClampNeg), .int (xs (i + 2).toNatClampNeg), .int (xs (i + 3).toNatClampNeg)]) (rest := []) ⟨hx, hb, hml, hown, hts⟩ (v_coupon l D cI cJ cO hm y μ H1.size N (xs (i + 1).toNatClampNeg) (xs (i + 2).toNatClampNeg) (xs (i + 3).toNatClampNeg) r hm5) (cwV 3 hts gL_law_X5_coupon_ rfl rfl rfl (by decide +kernel) ⟨(Nat.le_of_ble_eq_true rfl), (Nat.le_of_ble_eq_true rfl)⟩) ⟨mp_blind, va_recv hK hPy (ci := 4) (q0 := 0) rfl rfl, fun U hU hW => ⟨rfl, mp_at hZ hS hPy hK hDy hFy hU hW (Or.inl rfl)⟩⟩ rfl rfl hl.1 rfl (lv_room (Nat.le_of_ble_eq_true rfl)) dL_law_820 ⟨(by show cells + 2 + 0 ≤ 601024; omega), (by show slots + 12 + 0 ≤ 7293034; omega)⟩) hS (fun q _ h => hFy q h) hFy (fun rv u5 t H2 locs2 ht9 hvm hw hBx hz2 hk2 hS => ?_)
  subst hw
  obtain ⟨hP2, hD2⟩ := hBx
  rw [ht9] at hP2
  obtain ⟨hP, hD⟩ := wjr hP hD (fun q h => Nat.le_trans hS0.1 h) hP2 hD2 hk2
  refine lv_istore (lv' := [(6, .int r.1), (5, .int kv), (4, .int i), (0, .ref b), (1, .ref qk), (2, .ref hm), (3, .ref qo)]) hx hb dL_law_823 hl (by decide) rfl (fun ls hl => ?_)
  refine lv_aload_n hx hb dL_law_825 rfl (lv_at hl 5 rfl) ?_
  have hPy := wp_r hP
  refine cSi (W.runV (As := []) (rest := []) ⟨hx, hb, hml, hown, hts⟩ (m_X5_thrown l D cI cJ cO hm y.1 y.2.1 y.2.2.1 y.2.2.2 r.2.1 r.2.2.1 r.2.2.2.1 r.2.2.2.2.1 r.2.2.2.2.2.1 r.2.2.2.2.2.2 (r.2.1 0) rfl) (cwV 0 hts gL_law_X5_thrown rfl rfl rfl (by decide +kernel) ⟨(Nat.le_of_ble_eq_true rfl), (Nat.le_of_ble_eq_true rfl)⟩) ⟨pw_blind, va_recv hK hPy (ci := 4) (q0 := 0) rfl rfl, fun U hU hW => ⟨rfl, pw_at hZ hS hPy hK hU hW (Or.inl rfl) [0, 1, 2, 3, 4] rfl⟩⟩ rfl rfl hl.1 rfl (lv_room (Nat.le_of_ble_eq_true rfl)) dL_law_826 ⟨(by show cells + 2 ≤ 601024; omega), (by show slots + 12 ≤ 7293034; omega)⟩) ?_
  refine lv_iload hx hb dL_law_829 (lv_at hl 1 rfl) ?_
  refine lv_icmp_eq (tgt := 836) hx hb dL_law_831 (by decide) (fun _ => ?_) (fun c0 => absurd (ha.trans ekv.symm) c0)
  refine lv_iload hx hb dL_law_836 (lv_at hl 1 rfl) ?_
  refine lv_if_ne (tgt := 853) hx hb dL_law_838 (by decide) (fun _ => ?_) (fun c0 => ?_)
  · refine lv_goto (tgt := 1686) hx hb dL_law_853 (by decide) ?_
    exact kk _ _ _ _ _ hP hD hS (lv_sub hl [2, 3, 4, 5, 6] rfl)
  · rcases hR : R with u | E0
    · have hfv := hf1 u hR
      have hve := hv u hR
      have hPx := wp_l hP
      refine lv_aload_n hx hb dL_law_841 rfl (lv_at hl 6 rfl) ?_
      refine lv_iconst (v := 0) hx hb dL_law_842 (by decide) ?_
      refine va_lald hx hb hK hPx 0 1 rfl rfl in01 dL_law_843 ?_
      refine lv_iload hx hb dL_law_844 (lv_at hl 0 rfl) ?_
      refine lv_i2l hx hb dL_law_846 rfl ?_
      refine W.lcmp hx hb dL_law_847 ?_
      refine lv_if_eq (tgt := 853) hx hb dL_law_848 (by decide) (fun _ => ?_) (fun c1 => absurd ((lg_cmp_eq _ _).mpr (hfv.trans hve)) c1)
      refine lv_goto (tgt := 1686) hx hb dL_law_853 (by decide) ?_
      exact kk _ _ _ _ _ hP hD hS (lv_sub hl [2, 3, 4, 5, 6] rfl)
    · have hm9 := hE0 E0 hR
      have h9 : kR ["java/lang/IndexOutOfBoundsException"] R = 0 := ekv.symm.trans c0
      rw [hR] at h9
      simp only [List.mem_cons, List.not_mem_nil, or_false] at hm9
      subst hm9; exact absurd h9 (by decide)
set_option maxHeartbeats 4000000 in
set_option maxRecDepth 100000 in
theorem lc_accrued {p : Program} {l : Launch} {e : Env} {s : State} {m : MethodId} {below : List Frame} {meth : Method} {c : Code} {b L : Nat} {xs : Nat → Int32} {D : va_G} {cI cJ cO : ClassId} {ah : Nat} (E : LE p s l m meth c b L xs D cI cJ cO ah) {Q : State → Prop} {N : Nat} {qk qo hm : Nat} {i : Int32} (hi : ∀ k : Int32, k ∈ [1, 2, 3, 4, 5] → vp_in (i + k) L) {cells slots : Nat} (hc : cells + 9 ≤ 601024) (hs : slots + 182 ≤ 7293034) {H : Heap} {locs : List Loc} {z : AZ} {f : Nat → Int64} {g : SG} {y : Nat × Nat × Nat × Nat} {μ : SM} (hP : va_P D vwCl (WL cI cJ cO qk qo hm z f g y μ) H) (hD : va_D (fun q => s.heap.size ≤ q) (WL cI cJ cO qk qo hm z f g y μ)) (hS : va_S (fun q => s.heap.size ≤ q) s.heap H locs) {ls : Array Slot} (hl : lv_has ls 9 [(4, .int i), (0, .ref b), (1, .ref qk), (2, .ref hm), (3, .ref qo)]) {R : (Int32 × SG) ⊕ String} {r : Int32 × SM} (hk : k_accrued N g (xs (i + 1).toNatClampNeg) (xs (i + 2).toNatClampNeg) = some R) (hm5 : q_accrued N μ (xs (i + 1).toNatClampNeg) (xs (i + 2).toNatClampNeg) = some r) (hE0 : ∀ E, R = .inr E → E ∈ ["java/lang/IndexOutOfBoundsException", "java/lang/IllegalArgumentException"]) (ha : r.2.1 0 = kR ["java/lang/IndexOutOfBoundsException", "java/lang/IllegalArgumentException"] R) (hv : ∀ u, R = .inl u → u.1.toInt64 = r.1.toInt64) (kk : ∀ (z1 : AZ) (f1 : Nat → Int64) (H1 : Heap) (locs1 : List Loc) (ls1 : Array Slot), va_P D vwCl (WL cI cJ cO qk qo hm z1 f1 (gR g R) y r.2) H1 → va_D (fun q => s.heap.size ≤ q) (WL cI cJ cO qk qo hm z1 f1 (gR g R) y r.2) → va_S (fun q => s.heap.size ≤ q) s.heap H1 locs1 → lv_has ls1 9 [(4, .int i), (0, .ref b), (1, .ref qk), (2, .ref hm), (3, .ref qo)] → W p l e room_1 s m #[.ref b] below meth c H1 locs1 (cells + 2) (slots + 12) Q (F0 m 1686 ls1 [])) : W p l e room_1 s m #[.ref b] below meth c H locs cells slots Q (F0 m 856 ls []) := by
  obtain ⟨hx, hb, hml, hown, hts, hX, hbl, hK, hZ, hT, hNc, hl0⟩ := E
  have hA : ∀ q : Nat, s.heap.size ≤ q → (fun q : Nat => s.heap.size ≤ q) q := fun _ h => h
  have hbA : ¬ (fun q : Nat => s.heap.size ≤ q) b := Nat.not_le.mpr hbl
  refine lv_aload_n hx hb dL_law_856 rfl (lv_at hl 2 rfl) ?_
  refine lv_aload_n hx hb dL_law_857 rfl (lv_at hl 1 rfl) ?_
  refine lv_iload hx hb dL_law_858 (lv_at hl 0 rfl) ?_
  refine lv_iconst (v := 1) hx hb dL_law_860 (by decide) ?_
  refine lv_iadd hx hb dL_law_861 ?_
  refine va_sld hx hb hX hbl hbA hS (hi 1 (by decide)) dL_law_862 ?_
  refine lv_aload_n hx hb dL_law_863 rfl (lv_at hl 1 rfl) ?_
  refine lv_iload hx hb dL_law_864 (lv_at hl 0 rfl) ?_
  refine lv_iconst (v := 2) hx hb dL_law_866 (by decide) ?_
  refine lv_iadd hx hb dL_law_867 ?_
  refine va_sld hx hb hX hbl hbA hS (hi 2 (by decide)) dL_law_868 ?_
  refine lv_aload_n hx hb dL_law_869 rfl (lv_at hl 4 rfl) ?_
  have hPx := wp_l hP
  have hDx := wd_l hD
  have hFx : ∀ q, va_A (XW cI cJ cO qk qo z f g) H.size q → s.heap.size ≤ q := va_A_of hDx hS hA
  refine xH (vx_runSW (As := [.ref qk, .int (xs (i + 1).toNatClampNeg), .int (xs (i + 2).toNatClampNeg), .ref qo]) (rest := []) ⟨hx, hb, hml, hown, hts⟩ (h_accrued l D cI cJ cO ah qk qo f z g H.size N (xs (i + 1).toNatClampNeg) (xs (i + 2).toNatClampNeg) R hl0 hk hE0) (vx_cwSW 4 hts gL_law_L_accrued rfl rfl rfl (by decide +kernel) ⟨(Nat.le_of_ble_eq_true rfl), (Nat.le_of_ble_eq_true rfl)⟩) ⟨hp_blind, fun U hU hW => ⟨rfl, ⟨mp_at hZ hS hPx hK hDx hFx hU hW (Or.inr rfl), by rw [hU]; exact px_at hT hS hW hFx⟩, ncs_moved hW.alike hNc⟩⟩ rfl rfl hl.1 rfl (lv_room (Nat.le_of_ble_eq_true rfl)) dL_law_870 ⟨(by show cells + 2 ≤ 601024; omega), (by show slots + 12 ≤ 7293034; omega)⟩) hS hFx (fun z1 f1 H1 locs1 hf1 hP1 hD1 hz1 hk1 hS1 => ?_)
  obtain ⟨hP, hD⟩ := wj hP hD (fun q h => Nat.le_trans hS.1 h) hP1 hD1 hk1
  have hS := hS1
  have hS0 := hS1
  obtain ⟨kv, ekv⟩ : ∃ v, v = kR ["java/lang/IndexOutOfBoundsException", "java/lang/IllegalArgumentException"] R := ⟨_, rfl⟩
  rw [← ekv]
  refine lv_istore (lv' := [(5, .int kv), (4, .int i), (0, .ref b), (1, .ref qk), (2, .ref hm), (3, .ref qo)]) hx hb dL_law_873 hl (by decide) rfl (fun ls hl => ?_)
  refine lv_aload_n hx hb dL_law_875 rfl (lv_at hl 4 rfl) ?_
  refine lv_aload_n hx hb dL_law_876 rfl (lv_at hl 2 rfl) ?_
  refine lv_iload hx hb dL_law_877 (lv_at hl 1 rfl) ?_
  refine lv_iconst (v := 1) hx hb dL_law_879 (by decide) ?_
  refine lv_iadd hx hb dL_law_880 ?_
  refine va_sld hx hb hX hbl hbA hS (hi 1 (by decide)) dL_law_881 ?_
  refine lv_aload_n hx hb dL_law_882 rfl (lv_at hl 2 rfl) ?_
  refine lv_iload hx hb dL_law_883 (lv_at hl 1 rfl) ?_
  refine lv_iconst (v := 2) hx hb dL_law_885 (by decide) ?_
  refine lv_iadd hx hb dL_law_886 ?_
  refine va_sld hx hb hX hbl hbA hS (hi 2 (by decide)) dL_law_887 ?_
  have hPy := wp_r hP
  have hDy := wd_r hD
  have hFy : ∀ q, va_A (YW cI cJ hm y μ) H1.size q → s.heap.size ≤ q := va_A_of hDy hS hA
  refine va_calli (va_runV (As := [.int (xs (i + 1).toNatClampNeg), .int (xs (i + 2).toNatClampNeg)]) (rest := []) ⟨hx, hb, hml, hown, hts⟩ (v_accrued l D cI cJ cO hm y μ H1.size N (xs (i + 1).toNatClampNeg) (xs (i + 2).toNatClampNeg) r hm5) (cwV 2 hts gL_law_X5_accrued rfl rfl rfl (by decide +kernel) ⟨(Nat.le_of_ble_eq_true rfl), (Nat.le_of_ble_eq_true rfl)⟩) ⟨mp_blind, va_recv hK hPy (ci := 4) (q0 := 0) rfl rfl, fun U hU hW => ⟨rfl, mp_at hZ hS hPy hK hDy hFy hU hW (Or.inl rfl)⟩⟩ rfl rfl hl.1 rfl (lv_room (Nat.le_of_ble_eq_true rfl)) dL_law_888 ⟨(by show cells + 2 + 0 ≤ 601024; omega), (by show slots + 12 + 0 ≤ 7293034; omega)⟩) hS (fun q _ h => hFy q h) hFy (fun rv u5 t H2 locs2 ht9 hvm hw hBx hz2 hk2 hS => ?_)
  subst hw
  obtain ⟨hP2, hD2⟩ := hBx
  rw [ht9] at hP2
  obtain ⟨hP, hD⟩ := wjr hP hD (fun q h => Nat.le_trans hS0.1 h) hP2 hD2 hk2
  refine lv_istore (lv' := [(6, .int r.1), (5, .int kv), (4, .int i), (0, .ref b), (1, .ref qk), (2, .ref hm), (3, .ref qo)]) hx hb dL_law_891 hl (by decide) rfl (fun ls hl => ?_)
  refine lv_aload_n hx hb dL_law_893 rfl (lv_at hl 5 rfl) ?_
  have hPy := wp_r hP
  refine cSi (W.runV (As := []) (rest := []) ⟨hx, hb, hml, hown, hts⟩ (m_X5_thrown l D cI cJ cO hm y.1 y.2.1 y.2.2.1 y.2.2.2 r.2.1 r.2.2.1 r.2.2.2.1 r.2.2.2.2.1 r.2.2.2.2.2.1 r.2.2.2.2.2.2 (r.2.1 0) rfl) (cwV 0 hts gL_law_X5_thrown rfl rfl rfl (by decide +kernel) ⟨(Nat.le_of_ble_eq_true rfl), (Nat.le_of_ble_eq_true rfl)⟩) ⟨pw_blind, va_recv hK hPy (ci := 4) (q0 := 0) rfl rfl, fun U hU hW => ⟨rfl, pw_at hZ hS hPy hK hU hW (Or.inl rfl) [0, 1, 2, 3, 4] rfl⟩⟩ rfl rfl hl.1 rfl (lv_room (Nat.le_of_ble_eq_true rfl)) dL_law_894 ⟨(by show cells + 2 ≤ 601024; omega), (by show slots + 12 ≤ 7293034; omega)⟩) ?_
  refine lv_iload hx hb dL_law_897 (lv_at hl 1 rfl) ?_
  refine lv_icmp_eq (tgt := 904) hx hb dL_law_899 (by decide) (fun _ => ?_) (fun c0 => absurd (ha.trans ekv.symm) c0)
  refine lv_iload hx hb dL_law_904 (lv_at hl 1 rfl) ?_
  refine lv_if_ne (tgt := 921) hx hb dL_law_906 (by decide) (fun _ => ?_) (fun c0 => ?_)
  · refine lv_goto (tgt := 1686) hx hb dL_law_921 (by decide) ?_
    exact kk _ _ _ _ _ hP hD hS (lv_sub hl [2, 3, 4, 5, 6] rfl)
  · rcases hR : R with u | E0
    · have hfv := hf1 u hR
      have hve := hv u hR
      have hPx := wp_l hP
      refine lv_aload_n hx hb dL_law_909 rfl (lv_at hl 6 rfl) ?_
      refine lv_iconst (v := 0) hx hb dL_law_910 (by decide) ?_
      refine va_lald hx hb hK hPx 0 1 rfl rfl in01 dL_law_911 ?_
      refine lv_iload hx hb dL_law_912 (lv_at hl 0 rfl) ?_
      refine lv_i2l hx hb dL_law_914 rfl ?_
      refine W.lcmp hx hb dL_law_915 ?_
      refine lv_if_eq (tgt := 921) hx hb dL_law_916 (by decide) (fun _ => ?_) (fun c1 => absurd ((lg_cmp_eq _ _).mpr (hfv.trans hve)) c1)
      refine lv_goto (tgt := 1686) hx hb dL_law_921 (by decide) ?_
      exact kk _ _ _ _ _ hP hD hS (lv_sub hl [2, 3, 4, 5, 6] rfl)
    · have hm9 := hE0 E0 hR
      have h9 : kR ["java/lang/IndexOutOfBoundsException", "java/lang/IllegalArgumentException"] R = 0 := ekv.symm.trans c0
      rw [hR] at h9
      simp only [List.mem_cons, List.not_mem_nil, or_false] at hm9
      rcases hm9 with rfl | rfl <;> exact absurd h9 (by decide)
set_option maxHeartbeats 4000000 in
set_option maxRecDepth 100000 in
theorem lc_worth {p : Program} {l : Launch} {e : Env} {s : State} {m : MethodId} {below : List Frame} {meth : Method} {c : Code} {b L : Nat} {xs : Nat → Int32} {D : va_G} {cI cJ cO : ClassId} {ah : Nat} (E : LE p s l m meth c b L xs D cI cJ cO ah) {Q : State → Prop} {N : Nat} {qk qo hm : Nat} {i : Int32} (hi : ∀ k : Int32, k ∈ [1, 2, 3, 4, 5] → vp_in (i + k) L) {cells slots : Nat} (hc : cells + 9 ≤ 601024) (hs : slots + 182 ≤ 7293034) {H : Heap} {locs : List Loc} {z : AZ} {f : Nat → Int64} {g : SG} {y : Nat × Nat × Nat × Nat} {μ : SM} (hP : va_P D vwCl (WL cI cJ cO qk qo hm z f g y μ) H) (hD : va_D (fun q => s.heap.size ≤ q) (WL cI cJ cO qk qo hm z f g y μ)) (hS : va_S (fun q => s.heap.size ≤ q) s.heap H locs) {ls : Array Slot} (hl : lv_has ls 9 [(4, .int i), (0, .ref b), (1, .ref qk), (2, .ref hm), (3, .ref qo)]) {R : (Int32 × SG) ⊕ String} {r : Int32 × SM} (hk : k_worth N g (xs (i + 1).toNatClampNeg) (xs (i + 2).toNatClampNeg) = some R) (hm5 : q_worth N μ (xs (i + 1).toNatClampNeg) (xs (i + 2).toNatClampNeg) = some r) (hE0 : ∀ E, R = .inr E → E ∈ ["java/lang/IndexOutOfBoundsException", "java/lang/IllegalArgumentException"]) (ha : r.2.1 0 = kR ["java/lang/IndexOutOfBoundsException", "java/lang/IllegalArgumentException"] R) (hv : ∀ u, R = .inl u → u.1.toInt64 = r.1.toInt64) (kk : ∀ (z1 : AZ) (f1 : Nat → Int64) (H1 : Heap) (locs1 : List Loc) (ls1 : Array Slot), va_P D vwCl (WL cI cJ cO qk qo hm z1 f1 (gR g R) y r.2) H1 → va_D (fun q => s.heap.size ≤ q) (WL cI cJ cO qk qo hm z1 f1 (gR g R) y r.2) → va_S (fun q => s.heap.size ≤ q) s.heap H1 locs1 → lv_has ls1 9 [(4, .int i), (0, .ref b), (1, .ref qk), (2, .ref hm), (3, .ref qo)] → W p l e room_1 s m #[.ref b] below meth c H1 locs1 (cells + 2) (slots + 12) Q (F0 m 1686 ls1 [])) : W p l e room_1 s m #[.ref b] below meth c H locs cells slots Q (F0 m 924 ls []) := by
  obtain ⟨hx, hb, hml, hown, hts, hX, hbl, hK, hZ, hT, hNc, hl0⟩ := E
  have hA : ∀ q : Nat, s.heap.size ≤ q → (fun q : Nat => s.heap.size ≤ q) q := fun _ h => h
  have hbA : ¬ (fun q : Nat => s.heap.size ≤ q) b := Nat.not_le.mpr hbl
  refine lv_aload_n hx hb dL_law_924 rfl (lv_at hl 2 rfl) ?_
  refine lv_aload_n hx hb dL_law_925 rfl (lv_at hl 1 rfl) ?_
  refine lv_iload hx hb dL_law_926 (lv_at hl 0 rfl) ?_
  refine lv_iconst (v := 1) hx hb dL_law_928 (by decide) ?_
  refine lv_iadd hx hb dL_law_929 ?_
  refine va_sld hx hb hX hbl hbA hS (hi 1 (by decide)) dL_law_930 ?_
  refine lv_aload_n hx hb dL_law_931 rfl (lv_at hl 1 rfl) ?_
  refine lv_iload hx hb dL_law_932 (lv_at hl 0 rfl) ?_
  refine lv_iconst (v := 2) hx hb dL_law_934 (by decide) ?_
  refine lv_iadd hx hb dL_law_935 ?_
  refine va_sld hx hb hX hbl hbA hS (hi 2 (by decide)) dL_law_936 ?_
  refine lv_aload_n hx hb dL_law_937 rfl (lv_at hl 4 rfl) ?_
  have hPx := wp_l hP
  have hDx := wd_l hD
  have hFx : ∀ q, va_A (XW cI cJ cO qk qo z f g) H.size q → s.heap.size ≤ q := va_A_of hDx hS hA
  refine xH (vx_runSW (As := [.ref qk, .int (xs (i + 1).toNatClampNeg), .int (xs (i + 2).toNatClampNeg), .ref qo]) (rest := []) ⟨hx, hb, hml, hown, hts⟩ (h_worth l D cI cJ cO ah qk qo f z g H.size N (xs (i + 1).toNatClampNeg) (xs (i + 2).toNatClampNeg) R hl0 hk hE0) (vx_cwSW 4 hts gL_law_L_worth rfl rfl rfl (by decide +kernel) ⟨(Nat.le_of_ble_eq_true rfl), (Nat.le_of_ble_eq_true rfl)⟩) ⟨hp_blind, fun U hU hW => ⟨rfl, ⟨mp_at hZ hS hPx hK hDx hFx hU hW (Or.inr rfl), by rw [hU]; exact px_at hT hS hW hFx⟩, ncs_moved hW.alike hNc⟩⟩ rfl rfl hl.1 rfl (lv_room (Nat.le_of_ble_eq_true rfl)) dL_law_938 ⟨(by show cells + 2 ≤ 601024; omega), (by show slots + 12 ≤ 7293034; omega)⟩) hS hFx (fun z1 f1 H1 locs1 hf1 hP1 hD1 hz1 hk1 hS1 => ?_)
  obtain ⟨hP, hD⟩ := wj hP hD (fun q h => Nat.le_trans hS.1 h) hP1 hD1 hk1
  have hS := hS1
  have hS0 := hS1
  obtain ⟨kv, ekv⟩ : ∃ v, v = kR ["java/lang/IndexOutOfBoundsException", "java/lang/IllegalArgumentException"] R := ⟨_, rfl⟩
  rw [← ekv]
  refine lv_istore (lv' := [(5, .int kv), (4, .int i), (0, .ref b), (1, .ref qk), (2, .ref hm), (3, .ref qo)]) hx hb dL_law_941 hl (by decide) rfl (fun ls hl => ?_)
  refine lv_aload_n hx hb dL_law_943 rfl (lv_at hl 4 rfl) ?_
  refine lv_aload_n hx hb dL_law_944 rfl (lv_at hl 2 rfl) ?_
  refine lv_iload hx hb dL_law_945 (lv_at hl 1 rfl) ?_
  refine lv_iconst (v := 1) hx hb dL_law_947 (by decide) ?_
  refine lv_iadd hx hb dL_law_948 ?_
  refine va_sld hx hb hX hbl hbA hS (hi 1 (by decide)) dL_law_949 ?_
  refine lv_aload_n hx hb dL_law_950 rfl (lv_at hl 2 rfl) ?_
  refine lv_iload hx hb dL_law_951 (lv_at hl 1 rfl) ?_
  refine lv_iconst (v := 2) hx hb dL_law_953 (by decide) ?_
  refine lv_iadd hx hb dL_law_954 ?_
  refine va_sld hx hb hX hbl hbA hS (hi 2 (by decide)) dL_law_955 ?_
  have hPy := wp_r hP
  have hDy := wd_r hD
  have hFy : ∀ q, va_A (YW cI cJ hm y μ) H1.size q → s.heap.size ≤ q := va_A_of hDy hS hA
  refine va_calli (va_runV (As := [.int (xs (i + 1).toNatClampNeg), .int (xs (i + 2).toNatClampNeg)]) (rest := []) ⟨hx, hb, hml, hown, hts⟩ (v_worth l D cI cJ cO hm y μ H1.size N (xs (i + 1).toNatClampNeg) (xs (i + 2).toNatClampNeg) r hm5) (cwV 2 hts gL_law_X5_worth rfl rfl rfl (by decide +kernel) ⟨(Nat.le_of_ble_eq_true rfl), (Nat.le_of_ble_eq_true rfl)⟩) ⟨mp_blind, va_recv hK hPy (ci := 4) (q0 := 0) rfl rfl, fun U hU hW => ⟨rfl, mp_at hZ hS hPy hK hDy hFy hU hW (Or.inl rfl)⟩⟩ rfl rfl hl.1 rfl (lv_room (Nat.le_of_ble_eq_true rfl)) dL_law_956 ⟨(by show cells + 2 + 0 ≤ 601024; omega), (by show slots + 12 + 0 ≤ 7293034; omega)⟩) hS (fun q _ h => hFy q h) hFy (fun rv u5 t H2 locs2 ht9 hvm hw hBx hz2 hk2 hS => ?_)
  subst hw
  obtain ⟨hP2, hD2⟩ := hBx
  rw [ht9] at hP2
  obtain ⟨hP, hD⟩ := wjr hP hD (fun q h => Nat.le_trans hS0.1 h) hP2 hD2 hk2
  refine lv_istore (lv' := [(6, .int r.1), (5, .int kv), (4, .int i), (0, .ref b), (1, .ref qk), (2, .ref hm), (3, .ref qo)]) hx hb dL_law_959 hl (by decide) rfl (fun ls hl => ?_)
  refine lv_aload_n hx hb dL_law_961 rfl (lv_at hl 5 rfl) ?_
  have hPy := wp_r hP
  refine cSi (W.runV (As := []) (rest := []) ⟨hx, hb, hml, hown, hts⟩ (m_X5_thrown l D cI cJ cO hm y.1 y.2.1 y.2.2.1 y.2.2.2 r.2.1 r.2.2.1 r.2.2.2.1 r.2.2.2.2.1 r.2.2.2.2.2.1 r.2.2.2.2.2.2 (r.2.1 0) rfl) (cwV 0 hts gL_law_X5_thrown rfl rfl rfl (by decide +kernel) ⟨(Nat.le_of_ble_eq_true rfl), (Nat.le_of_ble_eq_true rfl)⟩) ⟨pw_blind, va_recv hK hPy (ci := 4) (q0 := 0) rfl rfl, fun U hU hW => ⟨rfl, pw_at hZ hS hPy hK hU hW (Or.inl rfl) [0, 1, 2, 3, 4] rfl⟩⟩ rfl rfl hl.1 rfl (lv_room (Nat.le_of_ble_eq_true rfl)) dL_law_962 ⟨(by show cells + 2 ≤ 601024; omega), (by show slots + 12 ≤ 7293034; omega)⟩) ?_
  refine lv_iload hx hb dL_law_965 (lv_at hl 1 rfl) ?_
  refine lv_icmp_eq (tgt := 972) hx hb dL_law_967 (by decide) (fun _ => ?_) (fun c0 => absurd (ha.trans ekv.symm) c0)
  refine lv_iload hx hb dL_law_972 (lv_at hl 1 rfl) ?_
  refine lv_if_ne (tgt := 989) hx hb dL_law_974 (by decide) (fun _ => ?_) (fun c0 => ?_)
  · refine lv_goto (tgt := 1686) hx hb dL_law_989 (by decide) ?_
    exact kk _ _ _ _ _ hP hD hS (lv_sub hl [2, 3, 4, 5, 6] rfl)
  · rcases hR : R with u | E0
    · have hfv := hf1 u hR
      have hve := hv u hR
      have hPx := wp_l hP
      refine lv_aload_n hx hb dL_law_977 rfl (lv_at hl 6 rfl) ?_
      refine lv_iconst (v := 0) hx hb dL_law_978 (by decide) ?_
      refine va_lald hx hb hK hPx 0 1 rfl rfl in01 dL_law_979 ?_
      refine lv_iload hx hb dL_law_980 (lv_at hl 0 rfl) ?_
      refine lv_i2l hx hb dL_law_982 rfl ?_
      refine W.lcmp hx hb dL_law_983 ?_
      refine lv_if_eq (tgt := 989) hx hb dL_law_984 (by decide) (fun _ => ?_) (fun c1 => absurd ((lg_cmp_eq _ _).mpr (hfv.trans hve)) c1)
      refine lv_goto (tgt := 1686) hx hb dL_law_989 (by decide) ?_
      exact kk _ _ _ _ _ hP hD hS (lv_sub hl [2, 3, 4, 5, 6] rfl)
    · have hm9 := hE0 E0 hR
      have h9 : kR ["java/lang/IndexOutOfBoundsException", "java/lang/IllegalArgumentException"] R = 0 := ekv.symm.trans c0
      rw [hR] at h9
      simp only [List.mem_cons, List.not_mem_nil, or_false] at hm9
      rcases hm9 with rfl | rfl <;> exact absurd h9 (by decide)
set_option maxHeartbeats 4000000 in
set_option maxRecDepth 100000 in
theorem lc_yields {p : Program} {l : Launch} {e : Env} {s : State} {m : MethodId} {below : List Frame} {meth : Method} {c : Code} {b L : Nat} {xs : Nat → Int32} {D : va_G} {cI cJ cO : ClassId} {ah : Nat} (E : LE p s l m meth c b L xs D cI cJ cO ah) {Q : State → Prop} {N : Nat} {qk qo hm : Nat} {i : Int32} (hi : ∀ k : Int32, k ∈ [1, 2, 3, 4, 5] → vp_in (i + k) L) {cells slots : Nat} (hc : cells + 9 ≤ 601024) (hs : slots + 182 ≤ 7293034) {H : Heap} {locs : List Loc} {z : AZ} {f : Nat → Int64} {g : SG} {y : Nat × Nat × Nat × Nat} {μ : SM} (hP : va_P D vwCl (WL cI cJ cO qk qo hm z f g y μ) H) (hD : va_D (fun q => s.heap.size ≤ q) (WL cI cJ cO qk qo hm z f g y μ)) (hS : va_S (fun q => s.heap.size ≤ q) s.heap H locs) {ls : Array Slot} (hl : lv_has ls 9 [(4, .int i), (0, .ref b), (1, .ref qk), (2, .ref hm), (3, .ref qo)]) {R : (Int32 × SG) ⊕ String} {r : Int32 × SM} (hk : k_yields N g (xs (i + 1).toNatClampNeg) (xs (i + 2).toNatClampNeg) = some R) (hm5 : q_yields N μ (xs (i + 1).toNatClampNeg) (xs (i + 2).toNatClampNeg) = some r) (hE0 : ∀ E, R = .inr E → E ∈ ["java/lang/IndexOutOfBoundsException", "java/lang/IllegalArgumentException"]) (ha : r.2.1 0 = kR ["java/lang/IndexOutOfBoundsException", "java/lang/IllegalArgumentException"] R) (hv : ∀ u, R = .inl u → u.1.toInt64 = r.1.toInt64) (kk : ∀ (z1 : AZ) (f1 : Nat → Int64) (H1 : Heap) (locs1 : List Loc) (ls1 : Array Slot), va_P D vwCl (WL cI cJ cO qk qo hm z1 f1 (gR g R) y r.2) H1 → va_D (fun q => s.heap.size ≤ q) (WL cI cJ cO qk qo hm z1 f1 (gR g R) y r.2) → va_S (fun q => s.heap.size ≤ q) s.heap H1 locs1 → lv_has ls1 9 [(4, .int i), (0, .ref b), (1, .ref qk), (2, .ref hm), (3, .ref qo)] → W p l e room_1 s m #[.ref b] below meth c H1 locs1 (cells + 2) (slots + 12) Q (F0 m 1686 ls1 [])) : W p l e room_1 s m #[.ref b] below meth c H locs cells slots Q (F0 m 992 ls []) := by
  obtain ⟨hx, hb, hml, hown, hts, hX, hbl, hK, hZ, hT, hNc, hl0⟩ := E
  have hA : ∀ q : Nat, s.heap.size ≤ q → (fun q : Nat => s.heap.size ≤ q) q := fun _ h => h
  have hbA : ¬ (fun q : Nat => s.heap.size ≤ q) b := Nat.not_le.mpr hbl
  refine lv_aload_n hx hb dL_law_992 rfl (lv_at hl 2 rfl) ?_
  refine lv_aload_n hx hb dL_law_993 rfl (lv_at hl 1 rfl) ?_
  refine lv_iload hx hb dL_law_994 (lv_at hl 0 rfl) ?_
  refine lv_iconst (v := 1) hx hb dL_law_996 (by decide) ?_
  refine lv_iadd hx hb dL_law_997 ?_
  refine va_sld hx hb hX hbl hbA hS (hi 1 (by decide)) dL_law_998 ?_
  refine lv_aload_n hx hb dL_law_999 rfl (lv_at hl 1 rfl) ?_
  refine lv_iload hx hb dL_law_1000 (lv_at hl 0 rfl) ?_
  refine lv_iconst (v := 2) hx hb dL_law_1002 (by decide) ?_
  refine lv_iadd hx hb dL_law_1003 ?_
  refine va_sld hx hb hX hbl hbA hS (hi 2 (by decide)) dL_law_1004 ?_
  refine lv_aload_n hx hb dL_law_1005 rfl (lv_at hl 4 rfl) ?_
  have hPx := wp_l hP
  have hDx := wd_l hD
  have hFx : ∀ q, va_A (XW cI cJ cO qk qo z f g) H.size q → s.heap.size ≤ q := va_A_of hDx hS hA
  refine xH (vx_runSW (As := [.ref qk, .int (xs (i + 1).toNatClampNeg), .int (xs (i + 2).toNatClampNeg), .ref qo]) (rest := []) ⟨hx, hb, hml, hown, hts⟩ (h_yields l D cI cJ cO ah qk qo f z g H.size N (xs (i + 1).toNatClampNeg) (xs (i + 2).toNatClampNeg) R hl0 hk hE0) (vx_cwSW 4 hts gL_law_L_yields rfl rfl rfl (by decide +kernel) ⟨(Nat.le_of_ble_eq_true rfl), (Nat.le_of_ble_eq_true rfl)⟩) ⟨hp_blind, fun U hU hW => ⟨rfl, ⟨mp_at hZ hS hPx hK hDx hFx hU hW (Or.inr rfl), by rw [hU]; exact px_at hT hS hW hFx⟩, ncs_moved hW.alike hNc⟩⟩ rfl rfl hl.1 rfl (lv_room (Nat.le_of_ble_eq_true rfl)) dL_law_1006 ⟨(by show cells + 2 ≤ 601024; omega), (by show slots + 12 ≤ 7293034; omega)⟩) hS hFx (fun z1 f1 H1 locs1 hf1 hP1 hD1 hz1 hk1 hS1 => ?_)
  obtain ⟨hP, hD⟩ := wj hP hD (fun q h => Nat.le_trans hS.1 h) hP1 hD1 hk1
  have hS := hS1
  have hS0 := hS1
  obtain ⟨kv, ekv⟩ : ∃ v, v = kR ["java/lang/IndexOutOfBoundsException", "java/lang/IllegalArgumentException"] R := ⟨_, rfl⟩
  rw [← ekv]
  refine lv_istore (lv' := [(5, .int kv), (4, .int i), (0, .ref b), (1, .ref qk), (2, .ref hm), (3, .ref qo)]) hx hb dL_law_1009 hl (by decide) rfl (fun ls hl => ?_)
  refine lv_aload_n hx hb dL_law_1011 rfl (lv_at hl 4 rfl) ?_
  refine lv_aload_n hx hb dL_law_1012 rfl (lv_at hl 2 rfl) ?_
  refine lv_iload hx hb dL_law_1013 (lv_at hl 1 rfl) ?_
  refine lv_iconst (v := 1) hx hb dL_law_1015 (by decide) ?_
  refine lv_iadd hx hb dL_law_1016 ?_
  refine va_sld hx hb hX hbl hbA hS (hi 1 (by decide)) dL_law_1017 ?_
  refine lv_aload_n hx hb dL_law_1018 rfl (lv_at hl 2 rfl) ?_
  refine lv_iload hx hb dL_law_1019 (lv_at hl 1 rfl) ?_
  refine lv_iconst (v := 2) hx hb dL_law_1021 (by decide) ?_
  refine lv_iadd hx hb dL_law_1022 ?_
  refine va_sld hx hb hX hbl hbA hS (hi 2 (by decide)) dL_law_1023 ?_
  have hPy := wp_r hP
  have hDy := wd_r hD
  have hFy : ∀ q, va_A (YW cI cJ hm y μ) H1.size q → s.heap.size ≤ q := va_A_of hDy hS hA
  refine va_calli (va_runV (As := [.int (xs (i + 1).toNatClampNeg), .int (xs (i + 2).toNatClampNeg)]) (rest := []) ⟨hx, hb, hml, hown, hts⟩ (v_yields l D cI cJ cO hm y μ H1.size N (xs (i + 1).toNatClampNeg) (xs (i + 2).toNatClampNeg) r hm5) (cwV 2 hts gL_law_X5_yields rfl rfl rfl (by decide +kernel) ⟨(Nat.le_of_ble_eq_true rfl), (Nat.le_of_ble_eq_true rfl)⟩) ⟨mp_blind, va_recv hK hPy (ci := 4) (q0 := 0) rfl rfl, fun U hU hW => ⟨rfl, mp_at hZ hS hPy hK hDy hFy hU hW (Or.inl rfl)⟩⟩ rfl rfl hl.1 rfl (lv_room (Nat.le_of_ble_eq_true rfl)) dL_law_1024 ⟨(by show cells + 2 + 0 ≤ 601024; omega), (by show slots + 12 + 0 ≤ 7293034; omega)⟩) hS (fun q _ h => hFy q h) hFy (fun rv u5 t H2 locs2 ht9 hvm hw hBx hz2 hk2 hS => ?_)
  subst hw
  obtain ⟨hP2, hD2⟩ := hBx
  rw [ht9] at hP2
  obtain ⟨hP, hD⟩ := wjr hP hD (fun q h => Nat.le_trans hS0.1 h) hP2 hD2 hk2
  refine lv_istore (lv' := [(6, .int r.1), (5, .int kv), (4, .int i), (0, .ref b), (1, .ref qk), (2, .ref hm), (3, .ref qo)]) hx hb dL_law_1027 hl (by decide) rfl (fun ls hl => ?_)
  refine lv_aload_n hx hb dL_law_1029 rfl (lv_at hl 5 rfl) ?_
  have hPy := wp_r hP
  refine cSi (W.runV (As := []) (rest := []) ⟨hx, hb, hml, hown, hts⟩ (m_X5_thrown l D cI cJ cO hm y.1 y.2.1 y.2.2.1 y.2.2.2 r.2.1 r.2.2.1 r.2.2.2.1 r.2.2.2.2.1 r.2.2.2.2.2.1 r.2.2.2.2.2.2 (r.2.1 0) rfl) (cwV 0 hts gL_law_X5_thrown rfl rfl rfl (by decide +kernel) ⟨(Nat.le_of_ble_eq_true rfl), (Nat.le_of_ble_eq_true rfl)⟩) ⟨pw_blind, va_recv hK hPy (ci := 4) (q0 := 0) rfl rfl, fun U hU hW => ⟨rfl, pw_at hZ hS hPy hK hU hW (Or.inl rfl) [0, 1, 2, 3, 4] rfl⟩⟩ rfl rfl hl.1 rfl (lv_room (Nat.le_of_ble_eq_true rfl)) dL_law_1030 ⟨(by show cells + 2 ≤ 601024; omega), (by show slots + 12 ≤ 7293034; omega)⟩) ?_
  refine lv_iload hx hb dL_law_1033 (lv_at hl 1 rfl) ?_
  refine lv_icmp_eq (tgt := 1040) hx hb dL_law_1035 (by decide) (fun _ => ?_) (fun c0 => absurd (ha.trans ekv.symm) c0)
  refine lv_iload hx hb dL_law_1040 (lv_at hl 1 rfl) ?_
  refine lv_if_ne (tgt := 1057) hx hb dL_law_1042 (by decide) (fun _ => ?_) (fun c0 => ?_)
  · refine lv_goto (tgt := 1686) hx hb dL_law_1057 (by decide) ?_
    exact kk _ _ _ _ _ hP hD hS (lv_sub hl [2, 3, 4, 5, 6] rfl)
  · rcases hR : R with u | E0
    · have hfv := hf1 u hR
      have hve := hv u hR
      have hPx := wp_l hP
      refine lv_aload_n hx hb dL_law_1045 rfl (lv_at hl 6 rfl) ?_
      refine lv_iconst (v := 0) hx hb dL_law_1046 (by decide) ?_
      refine va_lald hx hb hK hPx 0 1 rfl rfl in01 dL_law_1047 ?_
      refine lv_iload hx hb dL_law_1048 (lv_at hl 0 rfl) ?_
      refine lv_i2l hx hb dL_law_1050 rfl ?_
      refine W.lcmp hx hb dL_law_1051 ?_
      refine lv_if_eq (tgt := 1057) hx hb dL_law_1052 (by decide) (fun _ => ?_) (fun c1 => absurd ((lg_cmp_eq _ _).mpr (hfv.trans hve)) c1)
      refine lv_goto (tgt := 1686) hx hb dL_law_1057 (by decide) ?_
      exact kk _ _ _ _ _ hP hD hS (lv_sub hl [2, 3, 4, 5, 6] rfl)
    · have hm9 := hE0 E0 hR
      have h9 : kR ["java/lang/IndexOutOfBoundsException", "java/lang/IllegalArgumentException"] R = 0 := ekv.symm.trans c0
      rw [hR] at h9
      simp only [List.mem_cons, List.not_mem_nil, or_false] at hm9
      rcases hm9 with rfl | rfl <;> exact absurd h9 (by decide)
set_option maxHeartbeats 4000000 in
set_option maxRecDepth 100000 in
theorem lc_moves {p : Program} {l : Launch} {e : Env} {s : State} {m : MethodId} {below : List Frame} {meth : Method} {c : Code} {b L : Nat} {xs : Nat → Int32} {D : va_G} {cI cJ cO : ClassId} {ah : Nat} (E : LE p s l m meth c b L xs D cI cJ cO ah) {Q : State → Prop} {N : Nat} {qk qo hm : Nat} {i : Int32} (hi : ∀ k : Int32, k ∈ [1, 2, 3, 4, 5] → vp_in (i + k) L) {cells slots : Nat} (hc : cells + 9 ≤ 601024) (hs : slots + 182 ≤ 7293034) {H : Heap} {locs : List Loc} {z : AZ} {f : Nat → Int64} {g : SG} {y : Nat × Nat × Nat × Nat} {μ : SM} (hP : va_P D vwCl (WL cI cJ cO qk qo hm z f g y μ) H) (hD : va_D (fun q => s.heap.size ≤ q) (WL cI cJ cO qk qo hm z f g y μ)) (hS : va_S (fun q => s.heap.size ≤ q) s.heap H locs) {ls : Array Slot} (hl : lv_has ls 9 [(4, .int i), (0, .ref b), (1, .ref qk), (2, .ref hm), (3, .ref qo)]) {R : (Int32 × SG) ⊕ String} {r : Int32 × SM} (hk : k_moves N g (xs (i + 1).toNatClampNeg) (xs (i + 2).toNatClampNeg) = some R) (hm5 : q_moves N μ (xs (i + 1).toNatClampNeg) (xs (i + 2).toNatClampNeg) = some r) (hE0 : ∀ E, R = .inr E → E ∈ ["java/lang/IndexOutOfBoundsException", "java/lang/IllegalArgumentException"]) (ha : r.2.1 0 = kR ["java/lang/IndexOutOfBoundsException", "java/lang/IllegalArgumentException"] R) (hv : ∀ u, R = .inl u → u.1.toInt64 = r.1.toInt64) (kk : ∀ (z1 : AZ) (f1 : Nat → Int64) (H1 : Heap) (locs1 : List Loc) (ls1 : Array Slot), va_P D vwCl (WL cI cJ cO qk qo hm z1 f1 (gR g R) y r.2) H1 → va_D (fun q => s.heap.size ≤ q) (WL cI cJ cO qk qo hm z1 f1 (gR g R) y r.2) → va_S (fun q => s.heap.size ≤ q) s.heap H1 locs1 → lv_has ls1 9 [(4, .int i), (0, .ref b), (1, .ref qk), (2, .ref hm), (3, .ref qo)] → W p l e room_1 s m #[.ref b] below meth c H1 locs1 (cells + 2) (slots + 12) Q (F0 m 1686 ls1 [])) : W p l e room_1 s m #[.ref b] below meth c H locs cells slots Q (F0 m 1060 ls []) := by
  obtain ⟨hx, hb, hml, hown, hts, hX, hbl, hK, hZ, hT, hNc, hl0⟩ := E
  have hA : ∀ q : Nat, s.heap.size ≤ q → (fun q : Nat => s.heap.size ≤ q) q := fun _ h => h
  have hbA : ¬ (fun q : Nat => s.heap.size ≤ q) b := Nat.not_le.mpr hbl
  refine lv_aload_n hx hb dL_law_1060 rfl (lv_at hl 2 rfl) ?_
  refine lv_aload_n hx hb dL_law_1061 rfl (lv_at hl 1 rfl) ?_
  refine lv_iload hx hb dL_law_1062 (lv_at hl 0 rfl) ?_
  refine lv_iconst (v := 1) hx hb dL_law_1064 (by decide) ?_
  refine lv_iadd hx hb dL_law_1065 ?_
  refine va_sld hx hb hX hbl hbA hS (hi 1 (by decide)) dL_law_1066 ?_
  refine lv_aload_n hx hb dL_law_1067 rfl (lv_at hl 1 rfl) ?_
  refine lv_iload hx hb dL_law_1068 (lv_at hl 0 rfl) ?_
  refine lv_iconst (v := 2) hx hb dL_law_1070 (by decide) ?_
  refine lv_iadd hx hb dL_law_1071 ?_
  refine va_sld hx hb hX hbl hbA hS (hi 2 (by decide)) dL_law_1072 ?_
  refine lv_aload_n hx hb dL_law_1073 rfl (lv_at hl 4 rfl) ?_
  have hPx := wp_l hP
  have hDx := wd_l hD
  have hFx : ∀ q, va_A (XW cI cJ cO qk qo z f g) H.size q → s.heap.size ≤ q := va_A_of hDx hS hA
  refine xH (vx_runSW (As := [.ref qk, .int (xs (i + 1).toNatClampNeg), .int (xs (i + 2).toNatClampNeg), .ref qo]) (rest := []) ⟨hx, hb, hml, hown, hts⟩ (h_moves l D cI cJ cO ah qk qo f z g H.size N (xs (i + 1).toNatClampNeg) (xs (i + 2).toNatClampNeg) R hl0 hk hE0) (vx_cwSW 4 hts gL_law_L_moves rfl rfl rfl (by decide +kernel) ⟨(Nat.le_of_ble_eq_true rfl), (Nat.le_of_ble_eq_true rfl)⟩) ⟨hp_blind, fun U hU hW => ⟨rfl, ⟨mp_at hZ hS hPx hK hDx hFx hU hW (Or.inr rfl), by rw [hU]; exact px_at hT hS hW hFx⟩, ncs_moved hW.alike hNc⟩⟩ rfl rfl hl.1 rfl (lv_room (Nat.le_of_ble_eq_true rfl)) dL_law_1074 ⟨(by show cells + 2 ≤ 601024; omega), (by show slots + 12 ≤ 7293034; omega)⟩) hS hFx (fun z1 f1 H1 locs1 hf1 hP1 hD1 hz1 hk1 hS1 => ?_)
  obtain ⟨hP, hD⟩ := wj hP hD (fun q h => Nat.le_trans hS.1 h) hP1 hD1 hk1
  have hS := hS1
  have hS0 := hS1
  obtain ⟨kv, ekv⟩ : ∃ v, v = kR ["java/lang/IndexOutOfBoundsException", "java/lang/IllegalArgumentException"] R := ⟨_, rfl⟩
  rw [← ekv]
  refine lv_istore (lv' := [(5, .int kv), (4, .int i), (0, .ref b), (1, .ref qk), (2, .ref hm), (3, .ref qo)]) hx hb dL_law_1077 hl (by decide) rfl (fun ls hl => ?_)
  refine lv_aload_n hx hb dL_law_1079 rfl (lv_at hl 4 rfl) ?_
  refine lv_aload_n hx hb dL_law_1080 rfl (lv_at hl 2 rfl) ?_
  refine lv_iload hx hb dL_law_1081 (lv_at hl 1 rfl) ?_
  refine lv_iconst (v := 1) hx hb dL_law_1083 (by decide) ?_
  refine lv_iadd hx hb dL_law_1084 ?_
  refine va_sld hx hb hX hbl hbA hS (hi 1 (by decide)) dL_law_1085 ?_
  refine lv_aload_n hx hb dL_law_1086 rfl (lv_at hl 2 rfl) ?_
  refine lv_iload hx hb dL_law_1087 (lv_at hl 1 rfl) ?_
  refine lv_iconst (v := 2) hx hb dL_law_1089 (by decide) ?_
  refine lv_iadd hx hb dL_law_1090 ?_
  refine va_sld hx hb hX hbl hbA hS (hi 2 (by decide)) dL_law_1091 ?_
  have hPy := wp_r hP
  have hDy := wd_r hD
  have hFy : ∀ q, va_A (YW cI cJ hm y μ) H1.size q → s.heap.size ≤ q := va_A_of hDy hS hA
  refine va_calli (va_runV (As := [.int (xs (i + 1).toNatClampNeg), .int (xs (i + 2).toNatClampNeg)]) (rest := []) ⟨hx, hb, hml, hown, hts⟩ (v_moves l D cI cJ cO hm y μ H1.size N (xs (i + 1).toNatClampNeg) (xs (i + 2).toNatClampNeg) r hm5) (cwV 2 hts gL_law_X5_moves rfl rfl rfl (by decide +kernel) ⟨(Nat.le_of_ble_eq_true rfl), (Nat.le_of_ble_eq_true rfl)⟩) ⟨mp_blind, va_recv hK hPy (ci := 4) (q0 := 0) rfl rfl, fun U hU hW => ⟨rfl, mp_at hZ hS hPy hK hDy hFy hU hW (Or.inl rfl)⟩⟩ rfl rfl hl.1 rfl (lv_room (Nat.le_of_ble_eq_true rfl)) dL_law_1092 ⟨(by show cells + 2 + 0 ≤ 601024; omega), (by show slots + 12 + 0 ≤ 7293034; omega)⟩) hS (fun q _ h => hFy q h) hFy (fun rv u5 t H2 locs2 ht9 hvm hw hBx hz2 hk2 hS => ?_)
  subst hw
  obtain ⟨hP2, hD2⟩ := hBx
  rw [ht9] at hP2
  obtain ⟨hP, hD⟩ := wjr hP hD (fun q h => Nat.le_trans hS0.1 h) hP2 hD2 hk2
  refine lv_istore (lv' := [(6, .int r.1), (5, .int kv), (4, .int i), (0, .ref b), (1, .ref qk), (2, .ref hm), (3, .ref qo)]) hx hb dL_law_1095 hl (by decide) rfl (fun ls hl => ?_)
  refine lv_aload_n hx hb dL_law_1097 rfl (lv_at hl 5 rfl) ?_
  have hPy := wp_r hP
  refine cSi (W.runV (As := []) (rest := []) ⟨hx, hb, hml, hown, hts⟩ (m_X5_thrown l D cI cJ cO hm y.1 y.2.1 y.2.2.1 y.2.2.2 r.2.1 r.2.2.1 r.2.2.2.1 r.2.2.2.2.1 r.2.2.2.2.2.1 r.2.2.2.2.2.2 (r.2.1 0) rfl) (cwV 0 hts gL_law_X5_thrown rfl rfl rfl (by decide +kernel) ⟨(Nat.le_of_ble_eq_true rfl), (Nat.le_of_ble_eq_true rfl)⟩) ⟨pw_blind, va_recv hK hPy (ci := 4) (q0 := 0) rfl rfl, fun U hU hW => ⟨rfl, pw_at hZ hS hPy hK hU hW (Or.inl rfl) [0, 1, 2, 3, 4] rfl⟩⟩ rfl rfl hl.1 rfl (lv_room (Nat.le_of_ble_eq_true rfl)) dL_law_1098 ⟨(by show cells + 2 ≤ 601024; omega), (by show slots + 12 ≤ 7293034; omega)⟩) ?_
  refine lv_iload hx hb dL_law_1101 (lv_at hl 1 rfl) ?_
  refine lv_icmp_eq (tgt := 1108) hx hb dL_law_1103 (by decide) (fun _ => ?_) (fun c0 => absurd (ha.trans ekv.symm) c0)
  refine lv_iload hx hb dL_law_1108 (lv_at hl 1 rfl) ?_
  refine lv_if_ne (tgt := 1125) hx hb dL_law_1110 (by decide) (fun _ => ?_) (fun c0 => ?_)
  · refine lv_goto (tgt := 1686) hx hb dL_law_1125 (by decide) ?_
    exact kk _ _ _ _ _ hP hD hS (lv_sub hl [2, 3, 4, 5, 6] rfl)
  · rcases hR : R with u | E0
    · have hfv := hf1 u hR
      have hve := hv u hR
      have hPx := wp_l hP
      refine lv_aload_n hx hb dL_law_1113 rfl (lv_at hl 6 rfl) ?_
      refine lv_iconst (v := 0) hx hb dL_law_1114 (by decide) ?_
      refine va_lald hx hb hK hPx 0 1 rfl rfl in01 dL_law_1115 ?_
      refine lv_iload hx hb dL_law_1116 (lv_at hl 0 rfl) ?_
      refine lv_i2l hx hb dL_law_1118 rfl ?_
      refine W.lcmp hx hb dL_law_1119 ?_
      refine lv_if_eq (tgt := 1125) hx hb dL_law_1120 (by decide) (fun _ => ?_) (fun c1 => absurd ((lg_cmp_eq _ _).mpr (hfv.trans hve)) c1)
      refine lv_goto (tgt := 1686) hx hb dL_law_1125 (by decide) ?_
      exact kk _ _ _ _ _ hP hD hS (lv_sub hl [2, 3, 4, 5, 6] rfl)
    · have hm9 := hE0 E0 hR
      have h9 : kR ["java/lang/IndexOutOfBoundsException", "java/lang/IllegalArgumentException"] R = 0 := ekv.symm.trans c0
      rw [hR] at h9
      simp only [List.mem_cons, List.not_mem_nil, or_false] at hm9
      rcases hm9 with rfl | rfl <;> exact absurd h9 (by decide)
set_option maxHeartbeats 4000000 in
set_option maxRecDepth 100000 in
theorem lc_callsAt {p : Program} {l : Launch} {e : Env} {s : State} {m : MethodId} {below : List Frame} {meth : Method} {c : Code} {b L : Nat} {xs : Nat → Int32} {D : va_G} {cI cJ cO : ClassId} {ah : Nat} (E : LE p s l m meth c b L xs D cI cJ cO ah) {Q : State → Prop} {N : Nat} {qk qo hm : Nat} {i : Int32} (hi : ∀ k : Int32, k ∈ [1, 2, 3, 4, 5] → vp_in (i + k) L) {cells slots : Nat} (hc : cells + 9 ≤ 601024) (hs : slots + 182 ≤ 7293034) {H : Heap} {locs : List Loc} {z : AZ} {f : Nat → Int64} {g : SG} {y : Nat × Nat × Nat × Nat} {μ : SM} (hP : va_P D vwCl (WL cI cJ cO qk qo hm z f g y μ) H) (hD : va_D (fun q => s.heap.size ≤ q) (WL cI cJ cO qk qo hm z f g y μ)) (hS : va_S (fun q => s.heap.size ≤ q) s.heap H locs) {ls : Array Slot} (hl : lv_has ls 9 [(4, .int i), (0, .ref b), (1, .ref qk), (2, .ref hm), (3, .ref qo)]) {R : (Int32 × SG) ⊕ String} {r : Int32 × SM} (hk : k_callsAt N g (xs (i + 1).toNatClampNeg) = some R) (hm5 : q_callsAt N μ (xs (i + 1).toNatClampNeg) = some r) (hE0 : ∀ E, R = .inr E → E ∈ ["java/lang/IndexOutOfBoundsException"]) (ha : r.2.1 0 = kR ["java/lang/IndexOutOfBoundsException"] R) (hv : ∀ u, R = .inl u → u.1.toInt64 = r.1.toInt64) (kk : ∀ (z1 : AZ) (f1 : Nat → Int64) (H1 : Heap) (locs1 : List Loc) (ls1 : Array Slot), va_P D vwCl (WL cI cJ cO qk qo hm z1 f1 (gR g R) y r.2) H1 → va_D (fun q => s.heap.size ≤ q) (WL cI cJ cO qk qo hm z1 f1 (gR g R) y r.2) → va_S (fun q => s.heap.size ≤ q) s.heap H1 locs1 → lv_has ls1 9 [(4, .int i), (0, .ref b), (1, .ref qk), (2, .ref hm), (3, .ref qo)] → W p l e room_1 s m #[.ref b] below meth c H1 locs1 (cells + 1) (slots + 6) Q (F0 m 1686 ls1 [])) : W p l e room_1 s m #[.ref b] below meth c H locs cells slots Q (F0 m 1128 ls []) := by
  obtain ⟨hx, hb, hml, hown, hts, hX, hbl, hK, hZ, hT, hNc, hl0⟩ := E
  have hA : ∀ q : Nat, s.heap.size ≤ q → (fun q : Nat => s.heap.size ≤ q) q := fun _ h => h
  have hbA : ¬ (fun q : Nat => s.heap.size ≤ q) b := Nat.not_le.mpr hbl
  refine lv_aload_n hx hb dL_law_1128 rfl (lv_at hl 2 rfl) ?_
  refine lv_aload_n hx hb dL_law_1129 rfl (lv_at hl 1 rfl) ?_
  refine lv_iload hx hb dL_law_1130 (lv_at hl 0 rfl) ?_
  refine lv_iconst (v := 1) hx hb dL_law_1132 (by decide) ?_
  refine lv_iadd hx hb dL_law_1133 ?_
  refine va_sld hx hb hX hbl hbA hS (hi 1 (by decide)) dL_law_1134 ?_
  refine lv_aload_n hx hb dL_law_1135 rfl (lv_at hl 4 rfl) ?_
  have hPx := wp_l hP
  have hDx := wd_l hD
  have hFx : ∀ q, va_A (XW cI cJ cO qk qo z f g) H.size q → s.heap.size ≤ q := va_A_of hDx hS hA
  refine xH (vx_runSW (As := [.ref qk, .int (xs (i + 1).toNatClampNeg), .ref qo]) (rest := []) ⟨hx, hb, hml, hown, hts⟩ (h_callsAt l D cI cJ cO ah qk qo f z g H.size N (xs (i + 1).toNatClampNeg) R hl0 hk hE0) (vx_cwSW 3 hts gL_law_L_callsAt rfl rfl rfl (by decide +kernel) ⟨(Nat.le_of_ble_eq_true rfl), (Nat.le_of_ble_eq_true rfl)⟩) ⟨hp_blind, fun U hU hW => ⟨rfl, ⟨mp_at hZ hS hPx hK hDx hFx hU hW (Or.inr rfl), by rw [hU]; exact px_at hT hS hW hFx⟩, ncs_moved hW.alike hNc⟩⟩ rfl rfl hl.1 rfl (lv_room (Nat.le_of_ble_eq_true rfl)) dL_law_1136 ⟨(by show cells + 1 ≤ 601024; omega), (by show slots + 6 ≤ 7293034; omega)⟩) hS hFx (fun z1 f1 H1 locs1 hf1 hP1 hD1 hz1 hk1 hS1 => ?_)
  obtain ⟨hP, hD⟩ := wj hP hD (fun q h => Nat.le_trans hS.1 h) hP1 hD1 hk1
  have hS := hS1
  have hS0 := hS1
  obtain ⟨kv, ekv⟩ : ∃ v, v = kR ["java/lang/IndexOutOfBoundsException"] R := ⟨_, rfl⟩
  rw [← ekv]
  refine lv_istore (lv' := [(5, .int kv), (4, .int i), (0, .ref b), (1, .ref qk), (2, .ref hm), (3, .ref qo)]) hx hb dL_law_1139 hl (by decide) rfl (fun ls hl => ?_)
  refine lv_aload_n hx hb dL_law_1141 rfl (lv_at hl 4 rfl) ?_
  refine lv_aload_n hx hb dL_law_1142 rfl (lv_at hl 2 rfl) ?_
  refine lv_iload hx hb dL_law_1143 (lv_at hl 1 rfl) ?_
  refine lv_iconst (v := 1) hx hb dL_law_1145 (by decide) ?_
  refine lv_iadd hx hb dL_law_1146 ?_
  refine va_sld hx hb hX hbl hbA hS (hi 1 (by decide)) dL_law_1147 ?_
  have hPy := wp_r hP
  have hDy := wd_r hD
  have hFy : ∀ q, va_A (YW cI cJ hm y μ) H1.size q → s.heap.size ≤ q := va_A_of hDy hS hA
  refine va_calli (va_runV (As := [.int (xs (i + 1).toNatClampNeg)]) (rest := []) ⟨hx, hb, hml, hown, hts⟩ (v_callsAt l D cI cJ cO hm y μ H1.size N (xs (i + 1).toNatClampNeg) r hm5) (cwV 1 hts gL_law_X5_callsAt rfl rfl rfl (by decide +kernel) ⟨(Nat.le_of_ble_eq_true rfl), (Nat.le_of_ble_eq_true rfl)⟩) ⟨mp_blind, va_recv hK hPy (ci := 4) (q0 := 0) rfl rfl, fun U hU hW => ⟨rfl, mp_at hZ hS hPy hK hDy hFy hU hW (Or.inl rfl)⟩⟩ rfl rfl hl.1 rfl (lv_room (Nat.le_of_ble_eq_true rfl)) dL_law_1148 ⟨(by show cells + 1 + 0 ≤ 601024; omega), (by show slots + 6 + 0 ≤ 7293034; omega)⟩) hS (fun q _ h => hFy q h) hFy (fun rv u5 t H2 locs2 ht9 hvm hw hBx hz2 hk2 hS => ?_)
  subst hw
  obtain ⟨hP2, hD2⟩ := hBx
  rw [ht9] at hP2
  obtain ⟨hP, hD⟩ := wjr hP hD (fun q h => Nat.le_trans hS0.1 h) hP2 hD2 hk2
  refine lv_istore (lv' := [(6, .int r.1), (5, .int kv), (4, .int i), (0, .ref b), (1, .ref qk), (2, .ref hm), (3, .ref qo)]) hx hb dL_law_1151 hl (by decide) rfl (fun ls hl => ?_)
  refine lv_aload_n hx hb dL_law_1153 rfl (lv_at hl 5 rfl) ?_
  have hPy := wp_r hP
  refine cSi (W.runV (As := []) (rest := []) ⟨hx, hb, hml, hown, hts⟩ (m_X5_thrown l D cI cJ cO hm y.1 y.2.1 y.2.2.1 y.2.2.2 r.2.1 r.2.2.1 r.2.2.2.1 r.2.2.2.2.1 r.2.2.2.2.2.1 r.2.2.2.2.2.2 (r.2.1 0) rfl) (cwV 0 hts gL_law_X5_thrown rfl rfl rfl (by decide +kernel) ⟨(Nat.le_of_ble_eq_true rfl), (Nat.le_of_ble_eq_true rfl)⟩) ⟨pw_blind, va_recv hK hPy (ci := 4) (q0 := 0) rfl rfl, fun U hU hW => ⟨rfl, pw_at hZ hS hPy hK hU hW (Or.inl rfl) [0, 1, 2, 3, 4] rfl⟩⟩ rfl rfl hl.1 rfl (lv_room (Nat.le_of_ble_eq_true rfl)) dL_law_1154 ⟨(by show cells + 1 ≤ 601024; omega), (by show slots + 6 ≤ 7293034; omega)⟩) ?_
  refine lv_iload hx hb dL_law_1157 (lv_at hl 1 rfl) ?_
  refine lv_icmp_eq (tgt := 1164) hx hb dL_law_1159 (by decide) (fun _ => ?_) (fun c0 => absurd (ha.trans ekv.symm) c0)
  refine lv_iload hx hb dL_law_1164 (lv_at hl 1 rfl) ?_
  refine lv_if_ne (tgt := 1181) hx hb dL_law_1166 (by decide) (fun _ => ?_) (fun c0 => ?_)
  · refine lv_goto (tgt := 1686) hx hb dL_law_1181 (by decide) ?_
    exact kk _ _ _ _ _ hP hD hS (lv_sub hl [2, 3, 4, 5, 6] rfl)
  · rcases hR : R with u | E0
    · have hfv := hf1 u hR
      have hve := hv u hR
      have hPx := wp_l hP
      refine lv_aload_n hx hb dL_law_1169 rfl (lv_at hl 6 rfl) ?_
      refine lv_iconst (v := 0) hx hb dL_law_1170 (by decide) ?_
      refine va_lald hx hb hK hPx 0 1 rfl rfl in01 dL_law_1171 ?_
      refine lv_iload hx hb dL_law_1172 (lv_at hl 0 rfl) ?_
      refine lv_i2l hx hb dL_law_1174 rfl ?_
      refine W.lcmp hx hb dL_law_1175 ?_
      refine lv_if_eq (tgt := 1181) hx hb dL_law_1176 (by decide) (fun _ => ?_) (fun c1 => absurd ((lg_cmp_eq _ _).mpr (hfv.trans hve)) c1)
      refine lv_goto (tgt := 1686) hx hb dL_law_1181 (by decide) ?_
      exact kk _ _ _ _ _ hP hD hS (lv_sub hl [2, 3, 4, 5, 6] rfl)
    · have hm9 := hE0 E0 hR
      have h9 : kR ["java/lang/IndexOutOfBoundsException"] R = 0 := ekv.symm.trans c0
      rw [hR] at h9
      simp only [List.mem_cons, List.not_mem_nil, or_false] at hm9
      subst hm9; exact absurd h9 (by decide)
set_option maxHeartbeats 4000000 in
set_option maxRecDepth 100000 in
theorem lc_buy {p : Program} {l : Launch} {e : Env} {s : State} {m : MethodId} {below : List Frame} {meth : Method} {c : Code} {b L : Nat} {xs : Nat → Int32} {D : va_G} {cI cJ cO : ClassId} {ah : Nat} (E : LE p s l m meth c b L xs D cI cJ cO ah) {Q : State → Prop} {N : Nat} {qk qo hm : Nat} {i : Int32} (hi : ∀ k : Int32, k ∈ [1, 2, 3, 4, 5] → vp_in (i + k) L) {cells slots : Nat} (hc : cells + 9 ≤ 601024) (hs : slots + 182 ≤ 7293034) {H : Heap} {locs : List Loc} {z : AZ} {f : Nat → Int64} {g : SG} {y : Nat × Nat × Nat × Nat} {μ : SM} (hP : va_P D vwCl (WL cI cJ cO qk qo hm z f g y μ) H) (hD : va_D (fun q => s.heap.size ≤ q) (WL cI cJ cO qk qo hm z f g y μ)) (hS : va_S (fun q => s.heap.size ≤ q) s.heap H locs) {ls : Array Slot} (hl : lv_has ls 9 [(4, .int i), (0, .ref b), (1, .ref qk), (2, .ref hm), (3, .ref qo)]) {R : (Int64 × SG) ⊕ String} {r : Int64 × SM} (hk : k_buy N g (xs (i + 1).toNatClampNeg) (xs (i + 2).toNatClampNeg) (xs (i + 3).toNatClampNeg) = some R) (hm5 : q_buy N μ (xs (i + 1).toNatClampNeg) (xs (i + 2).toNatClampNeg) (xs (i + 3).toNatClampNeg) = some r) (hE0 : ∀ E, R = .inr E → E ∈ ["java/lang/IndexOutOfBoundsException", "java/lang/IllegalArgumentException", "java/lang/IllegalStateException"]) (ha : r.2.1 0 = kR ["java/lang/IndexOutOfBoundsException", "java/lang/IllegalArgumentException", "java/lang/IllegalStateException"] R) (hv : ∀ u, R = .inl u → u.1 = r.1) (kk : ∀ (z1 : AZ) (f1 : Nat → Int64) (H1 : Heap) (locs1 : List Loc) (ls1 : Array Slot), va_P D vwCl (WL cI cJ cO qk qo hm z1 f1 (gR g R) y r.2) H1 → va_D (fun q => s.heap.size ≤ q) (WL cI cJ cO qk qo hm z1 f1 (gR g R) y r.2) → va_S (fun q => s.heap.size ≤ q) s.heap H1 locs1 → lv_has ls1 9 [(4, .int i), (0, .ref b), (1, .ref qk), (2, .ref hm), (3, .ref qo)] → W p l e room_1 s m #[.ref b] below meth c H1 locs1 (cells + 6) (slots + 36) Q (F0 m 1686 ls1 [])) : W p l e room_1 s m #[.ref b] below meth c H locs cells slots Q (F0 m 1184 ls []) := by
  obtain ⟨hx, hb, hml, hown, hts, hX, hbl, hK, hZ, hT, hNc, hl0⟩ := E
  have hA : ∀ q : Nat, s.heap.size ≤ q → (fun q : Nat => s.heap.size ≤ q) q := fun _ h => h
  have hbA : ¬ (fun q : Nat => s.heap.size ≤ q) b := Nat.not_le.mpr hbl
  refine lv_aload_n hx hb dL_law_1184 rfl (lv_at hl 2 rfl) ?_
  refine lv_aload_n hx hb dL_law_1185 rfl (lv_at hl 1 rfl) ?_
  refine lv_iload hx hb dL_law_1186 (lv_at hl 0 rfl) ?_
  refine lv_iconst (v := 1) hx hb dL_law_1188 (by decide) ?_
  refine lv_iadd hx hb dL_law_1189 ?_
  refine va_sld hx hb hX hbl hbA hS (hi 1 (by decide)) dL_law_1190 ?_
  refine lv_aload_n hx hb dL_law_1191 rfl (lv_at hl 1 rfl) ?_
  refine lv_iload hx hb dL_law_1192 (lv_at hl 0 rfl) ?_
  refine lv_iconst (v := 2) hx hb dL_law_1194 (by decide) ?_
  refine lv_iadd hx hb dL_law_1195 ?_
  refine va_sld hx hb hX hbl hbA hS (hi 2 (by decide)) dL_law_1196 ?_
  refine lv_aload_n hx hb dL_law_1197 rfl (lv_at hl 1 rfl) ?_
  refine lv_iload hx hb dL_law_1198 (lv_at hl 0 rfl) ?_
  refine lv_iconst (v := 3) hx hb dL_law_1200 (by decide) ?_
  refine lv_iadd hx hb dL_law_1201 ?_
  refine va_sld hx hb hX hbl hbA hS (hi 3 (by decide)) dL_law_1202 ?_
  refine lv_aload_n hx hb dL_law_1203 rfl (lv_at hl 4 rfl) ?_
  have hPx := wp_l hP
  have hDx := wd_l hD
  have hFx : ∀ q, va_A (XW cI cJ cO qk qo z f g) H.size q → s.heap.size ≤ q := va_A_of hDx hS hA
  refine xH (vx_runSW (As := [.ref qk, .int (xs (i + 1).toNatClampNeg), .int (xs (i + 2).toNatClampNeg), .int (xs (i + 3).toNatClampNeg), .ref qo]) (rest := []) ⟨hx, hb, hml, hown, hts⟩ (h_buy l D cI cJ cO ah qk qo f z g H.size N (xs (i + 1).toNatClampNeg) (xs (i + 2).toNatClampNeg) (xs (i + 3).toNatClampNeg) R hl0 hk hE0) (vx_cwSW 5 hts gL_law_L_buy rfl rfl rfl (by decide +kernel) ⟨(Nat.le_of_ble_eq_true rfl), (Nat.le_of_ble_eq_true rfl)⟩) ⟨hp_blind, fun U hU hW => ⟨rfl, ⟨mp_at hZ hS hPx hK hDx hFx hU hW (Or.inr rfl), by rw [hU]; exact px_at hT hS hW hFx⟩, ncs_moved hW.alike hNc⟩⟩ rfl rfl hl.1 rfl (lv_room (Nat.le_of_ble_eq_true rfl)) dL_law_1204 ⟨(by show cells + 6 ≤ 601024; omega), (by show slots + 36 ≤ 7293034; omega)⟩) hS hFx (fun z1 f1 H1 locs1 hf1 hP1 hD1 hz1 hk1 hS1 => ?_)
  obtain ⟨hP, hD⟩ := wj hP hD (fun q h => Nat.le_trans hS.1 h) hP1 hD1 hk1
  have hS := hS1
  have hS0 := hS1
  obtain ⟨kv, ekv⟩ : ∃ v, v = kR ["java/lang/IndexOutOfBoundsException", "java/lang/IllegalArgumentException", "java/lang/IllegalStateException"] R := ⟨_, rfl⟩
  rw [← ekv]
  refine lv_istore (lv' := [(5, .int kv), (4, .int i), (0, .ref b), (1, .ref qk), (2, .ref hm), (3, .ref qo)]) hx hb dL_law_1207 hl (by decide) rfl (fun ls hl => ?_)
  refine lv_aload_n hx hb dL_law_1209 rfl (lv_at hl 4 rfl) ?_
  refine lv_aload_n hx hb dL_law_1210 rfl (lv_at hl 2 rfl) ?_
  refine lv_iload hx hb dL_law_1211 (lv_at hl 1 rfl) ?_
  refine lv_iconst (v := 1) hx hb dL_law_1213 (by decide) ?_
  refine lv_iadd hx hb dL_law_1214 ?_
  refine va_sld hx hb hX hbl hbA hS (hi 1 (by decide)) dL_law_1215 ?_
  refine lv_aload_n hx hb dL_law_1216 rfl (lv_at hl 2 rfl) ?_
  refine lv_iload hx hb dL_law_1217 (lv_at hl 1 rfl) ?_
  refine lv_iconst (v := 2) hx hb dL_law_1219 (by decide) ?_
  refine lv_iadd hx hb dL_law_1220 ?_
  refine va_sld hx hb hX hbl hbA hS (hi 2 (by decide)) dL_law_1221 ?_
  refine lv_aload_n hx hb dL_law_1222 rfl (lv_at hl 2 rfl) ?_
  refine lv_iload hx hb dL_law_1223 (lv_at hl 1 rfl) ?_
  refine lv_iconst (v := 3) hx hb dL_law_1225 (by decide) ?_
  refine lv_iadd hx hb dL_law_1226 ?_
  refine va_sld hx hb hX hbl hbA hS (hi 3 (by decide)) dL_law_1227 ?_
  have hPy := wp_r hP
  have hDy := wd_r hD
  have hFy : ∀ q, va_A (YW cI cJ hm y μ) H1.size q → s.heap.size ≤ q := va_A_of hDy hS hA
  refine va_calll (va_runV (As := [.int (xs (i + 1).toNatClampNeg), .int (xs (i + 2).toNatClampNeg), .int (xs (i + 3).toNatClampNeg)]) (rest := []) ⟨hx, hb, hml, hown, hts⟩ (v_buy l D cI cJ cO hm y μ H1.size N (xs (i + 1).toNatClampNeg) (xs (i + 2).toNatClampNeg) (xs (i + 3).toNatClampNeg) r hm5) (cwV 3 hts gL_law_X5_buy rfl rfl rfl (by decide +kernel) ⟨(Nat.le_of_ble_eq_true rfl), (Nat.le_of_ble_eq_true rfl)⟩) ⟨mp_blind, va_recv hK hPy (ci := 4) (q0 := 0) rfl rfl, fun U hU hW => ⟨rfl, mp_at hZ hS hPy hK hDy hFy hU hW (Or.inl rfl)⟩⟩ rfl rfl hl.1 rfl (lv_room (Nat.le_of_ble_eq_true rfl)) dL_law_1228 ⟨(by show cells + 6 + 0 ≤ 601024; omega), (by show slots + 36 + 0 ≤ 7293034; omega)⟩) hS (fun q _ h => hFy q h) hFy (fun rv u5 t H2 locs2 ht9 hvm hw hBx hz2 hk2 hS => ?_)
  subst hw
  obtain ⟨hP2, hD2⟩ := hBx
  rw [ht9] at hP2
  obtain ⟨hP, hD⟩ := wjr hP hD (fun q h => Nat.le_trans hS0.1 h) hP2 hD2 hk2
  refine lv_lstore (lv' := [(6, .long r.1), (5, .int kv), (4, .int i), (0, .ref b), (1, .ref qk), (2, .ref hm), (3, .ref qo)]) hx hb dL_law_1231 hl (by decide) rfl (fun ls hl => ?_)
  refine lv_aload_n hx hb dL_law_1233 rfl (lv_at hl 5 rfl) ?_
  have hPy := wp_r hP
  refine cSi (W.runV (As := []) (rest := []) ⟨hx, hb, hml, hown, hts⟩ (m_X5_thrown l D cI cJ cO hm y.1 y.2.1 y.2.2.1 y.2.2.2 r.2.1 r.2.2.1 r.2.2.2.1 r.2.2.2.2.1 r.2.2.2.2.2.1 r.2.2.2.2.2.2 (r.2.1 0) rfl) (cwV 0 hts gL_law_X5_thrown rfl rfl rfl (by decide +kernel) ⟨(Nat.le_of_ble_eq_true rfl), (Nat.le_of_ble_eq_true rfl)⟩) ⟨pw_blind, va_recv hK hPy (ci := 4) (q0 := 0) rfl rfl, fun U hU hW => ⟨rfl, pw_at hZ hS hPy hK hU hW (Or.inl rfl) [0, 1, 2, 3, 4] rfl⟩⟩ rfl rfl hl.1 rfl (lv_room (Nat.le_of_ble_eq_true rfl)) dL_law_1234 ⟨(by show cells + 6 ≤ 601024; omega), (by show slots + 36 ≤ 7293034; omega)⟩) ?_
  refine lv_iload hx hb dL_law_1237 (lv_at hl 1 rfl) ?_
  refine lv_icmp_eq (tgt := 1244) hx hb dL_law_1239 (by decide) (fun _ => ?_) (fun c0 => absurd (ha.trans ekv.symm) c0)
  refine lv_iload hx hb dL_law_1244 (lv_at hl 1 rfl) ?_
  refine lv_if_ne (tgt := 1260) hx hb dL_law_1246 (by decide) (fun _ => ?_) (fun c0 => ?_)
  · refine lv_goto (tgt := 1686) hx hb dL_law_1260 (by decide) ?_
    exact kk _ _ _ _ _ hP hD hS (lv_sub hl [2, 3, 4, 5, 6] rfl)
  · rcases hR : R with u | E0
    · have hfv := hf1 u hR
      have hve := hv u hR
      have hPx := wp_l hP
      refine lv_aload_n hx hb dL_law_1249 rfl (lv_at hl 6 rfl) ?_
      refine lv_iconst (v := 0) hx hb dL_law_1250 (by decide) ?_
      refine va_lald hx hb hK hPx 0 1 rfl rfl in01 dL_law_1251 ?_
      refine lv_lload hx hb dL_law_1252 (lv_at hl 0 rfl) ?_
      refine W.lcmp hx hb dL_law_1254 ?_
      refine lv_if_eq (tgt := 1260) hx hb dL_law_1255 (by decide) (fun _ => ?_) (fun c1 => absurd ((lg_cmp_eq _ _).mpr (hfv.trans hve)) c1)
      refine lv_goto (tgt := 1686) hx hb dL_law_1260 (by decide) ?_
      exact kk _ _ _ _ _ hP hD hS (lv_sub hl [2, 3, 4, 5, 6] rfl)
    · have hm9 := hE0 E0 hR
      have h9 : kR ["java/lang/IndexOutOfBoundsException", "java/lang/IllegalArgumentException", "java/lang/IllegalStateException"] R = 0 := ekv.symm.trans c0
      rw [hR] at h9
      simp only [List.mem_cons, List.not_mem_nil, or_false] at hm9
      rcases hm9 with rfl | rfl | rfl <;> exact absurd h9 (by decide)
set_option maxHeartbeats 4000000 in
set_option maxRecDepth 100000 in
theorem lc_sell {p : Program} {l : Launch} {e : Env} {s : State} {m : MethodId} {below : List Frame} {meth : Method} {c : Code} {b L : Nat} {xs : Nat → Int32} {D : va_G} {cI cJ cO : ClassId} {ah : Nat} (E : LE p s l m meth c b L xs D cI cJ cO ah) {Q : State → Prop} {N : Nat} {qk qo hm : Nat} {i : Int32} (hi : ∀ k : Int32, k ∈ [1, 2, 3, 4, 5] → vp_in (i + k) L) {cells slots : Nat} (hc : cells + 9 ≤ 601024) (hs : slots + 182 ≤ 7293034) {H : Heap} {locs : List Loc} {z : AZ} {f : Nat → Int64} {g : SG} {y : Nat × Nat × Nat × Nat} {μ : SM} (hP : va_P D vwCl (WL cI cJ cO qk qo hm z f g y μ) H) (hD : va_D (fun q => s.heap.size ≤ q) (WL cI cJ cO qk qo hm z f g y μ)) (hS : va_S (fun q => s.heap.size ≤ q) s.heap H locs) {ls : Array Slot} (hl : lv_has ls 9 [(4, .int i), (0, .ref b), (1, .ref qk), (2, .ref hm), (3, .ref qo)]) {R : (Int64 × SG) ⊕ String} {r : Int64 × SM} (hk : k_sell N g (xs (i + 1).toNatClampNeg) (xs (i + 2).toNatClampNeg) (xs (i + 3).toNatClampNeg) = some R) (hm5 : q_sell N μ (xs (i + 1).toNatClampNeg) (xs (i + 2).toNatClampNeg) (xs (i + 3).toNatClampNeg) = some r) (hE0 : ∀ E, R = .inr E → E ∈ ["java/lang/IndexOutOfBoundsException", "java/lang/IllegalArgumentException", "java/lang/IllegalStateException"]) (ha : r.2.1 0 = kR ["java/lang/IndexOutOfBoundsException", "java/lang/IllegalArgumentException", "java/lang/IllegalStateException"] R) (hv : ∀ u, R = .inl u → u.1 = r.1) (kk : ∀ (z1 : AZ) (f1 : Nat → Int64) (H1 : Heap) (locs1 : List Loc) (ls1 : Array Slot), va_P D vwCl (WL cI cJ cO qk qo hm z1 f1 (gR g R) y r.2) H1 → va_D (fun q => s.heap.size ≤ q) (WL cI cJ cO qk qo hm z1 f1 (gR g R) y r.2) → va_S (fun q => s.heap.size ≤ q) s.heap H1 locs1 → lv_has ls1 9 [(4, .int i), (0, .ref b), (1, .ref qk), (2, .ref hm), (3, .ref qo)] → W p l e room_1 s m #[.ref b] below meth c H1 locs1 (cells + 5) (slots + 30) Q (F0 m 1686 ls1 [])) : W p l e room_1 s m #[.ref b] below meth c H locs cells slots Q (F0 m 1263 ls []) := by
  obtain ⟨hx, hb, hml, hown, hts, hX, hbl, hK, hZ, hT, hNc, hl0⟩ := E
  have hA : ∀ q : Nat, s.heap.size ≤ q → (fun q : Nat => s.heap.size ≤ q) q := fun _ h => h
  have hbA : ¬ (fun q : Nat => s.heap.size ≤ q) b := Nat.not_le.mpr hbl
  refine lv_aload_n hx hb dL_law_1263 rfl (lv_at hl 2 rfl) ?_
  refine lv_aload_n hx hb dL_law_1264 rfl (lv_at hl 1 rfl) ?_
  refine lv_iload hx hb dL_law_1265 (lv_at hl 0 rfl) ?_
  refine lv_iconst (v := 1) hx hb dL_law_1267 (by decide) ?_
  refine lv_iadd hx hb dL_law_1268 ?_
  refine va_sld hx hb hX hbl hbA hS (hi 1 (by decide)) dL_law_1269 ?_
  refine lv_aload_n hx hb dL_law_1270 rfl (lv_at hl 1 rfl) ?_
  refine lv_iload hx hb dL_law_1271 (lv_at hl 0 rfl) ?_
  refine lv_iconst (v := 2) hx hb dL_law_1273 (by decide) ?_
  refine lv_iadd hx hb dL_law_1274 ?_
  refine va_sld hx hb hX hbl hbA hS (hi 2 (by decide)) dL_law_1275 ?_
  refine lv_aload_n hx hb dL_law_1276 rfl (lv_at hl 1 rfl) ?_
  refine lv_iload hx hb dL_law_1277 (lv_at hl 0 rfl) ?_
  refine lv_iconst (v := 3) hx hb dL_law_1279 (by decide) ?_
  refine lv_iadd hx hb dL_law_1280 ?_
  refine va_sld hx hb hX hbl hbA hS (hi 3 (by decide)) dL_law_1281 ?_
  refine lv_aload_n hx hb dL_law_1282 rfl (lv_at hl 4 rfl) ?_
  have hPx := wp_l hP
  have hDx := wd_l hD
  have hFx : ∀ q, va_A (XW cI cJ cO qk qo z f g) H.size q → s.heap.size ≤ q := va_A_of hDx hS hA
  refine xH (vx_runSW (As := [.ref qk, .int (xs (i + 1).toNatClampNeg), .int (xs (i + 2).toNatClampNeg), .int (xs (i + 3).toNatClampNeg), .ref qo]) (rest := []) ⟨hx, hb, hml, hown, hts⟩ (h_sell l D cI cJ cO ah qk qo f z g H.size N (xs (i + 1).toNatClampNeg) (xs (i + 2).toNatClampNeg) (xs (i + 3).toNatClampNeg) R hl0 hk hE0) (vx_cwSW 5 hts gL_law_L_sell rfl rfl rfl (by decide +kernel) ⟨(Nat.le_of_ble_eq_true rfl), (Nat.le_of_ble_eq_true rfl)⟩) ⟨hp_blind, fun U hU hW => ⟨rfl, ⟨mp_at hZ hS hPx hK hDx hFx hU hW (Or.inr rfl), by rw [hU]; exact px_at hT hS hW hFx⟩, ncs_moved hW.alike hNc⟩⟩ rfl rfl hl.1 rfl (lv_room (Nat.le_of_ble_eq_true rfl)) dL_law_1283 ⟨(by show cells + 5 ≤ 601024; omega), (by show slots + 30 ≤ 7293034; omega)⟩) hS hFx (fun z1 f1 H1 locs1 hf1 hP1 hD1 hz1 hk1 hS1 => ?_)
  obtain ⟨hP, hD⟩ := wj hP hD (fun q h => Nat.le_trans hS.1 h) hP1 hD1 hk1
  have hS := hS1
  have hS0 := hS1
  obtain ⟨kv, ekv⟩ : ∃ v, v = kR ["java/lang/IndexOutOfBoundsException", "java/lang/IllegalArgumentException", "java/lang/IllegalStateException"] R := ⟨_, rfl⟩
  rw [← ekv]
  refine lv_istore (lv' := [(5, .int kv), (4, .int i), (0, .ref b), (1, .ref qk), (2, .ref hm), (3, .ref qo)]) hx hb dL_law_1286 hl (by decide) rfl (fun ls hl => ?_)
  refine lv_aload_n hx hb dL_law_1288 rfl (lv_at hl 4 rfl) ?_
  refine lv_aload_n hx hb dL_law_1289 rfl (lv_at hl 2 rfl) ?_
  refine lv_iload hx hb dL_law_1290 (lv_at hl 1 rfl) ?_
  refine lv_iconst (v := 1) hx hb dL_law_1292 (by decide) ?_
  refine lv_iadd hx hb dL_law_1293 ?_
  refine va_sld hx hb hX hbl hbA hS (hi 1 (by decide)) dL_law_1294 ?_
  refine lv_aload_n hx hb dL_law_1295 rfl (lv_at hl 2 rfl) ?_
  refine lv_iload hx hb dL_law_1296 (lv_at hl 1 rfl) ?_
  refine lv_iconst (v := 2) hx hb dL_law_1298 (by decide) ?_
  refine lv_iadd hx hb dL_law_1299 ?_
  refine va_sld hx hb hX hbl hbA hS (hi 2 (by decide)) dL_law_1300 ?_
  refine lv_aload_n hx hb dL_law_1301 rfl (lv_at hl 2 rfl) ?_
  refine lv_iload hx hb dL_law_1302 (lv_at hl 1 rfl) ?_
  refine lv_iconst (v := 3) hx hb dL_law_1304 (by decide) ?_
  refine lv_iadd hx hb dL_law_1305 ?_
  refine va_sld hx hb hX hbl hbA hS (hi 3 (by decide)) dL_law_1306 ?_
  have hPy := wp_r hP
  have hDy := wd_r hD
  have hFy : ∀ q, va_A (YW cI cJ hm y μ) H1.size q → s.heap.size ≤ q := va_A_of hDy hS hA
  refine va_calll (va_runV (As := [.int (xs (i + 1).toNatClampNeg), .int (xs (i + 2).toNatClampNeg), .int (xs (i + 3).toNatClampNeg)]) (rest := []) ⟨hx, hb, hml, hown, hts⟩ (v_sell l D cI cJ cO hm y μ H1.size N (xs (i + 1).toNatClampNeg) (xs (i + 2).toNatClampNeg) (xs (i + 3).toNatClampNeg) r hm5) (cwV 3 hts gL_law_X5_sell rfl rfl rfl (by decide +kernel) ⟨(Nat.le_of_ble_eq_true rfl), (Nat.le_of_ble_eq_true rfl)⟩) ⟨mp_blind, va_recv hK hPy (ci := 4) (q0 := 0) rfl rfl, fun U hU hW => ⟨rfl, mp_at hZ hS hPy hK hDy hFy hU hW (Or.inl rfl)⟩⟩ rfl rfl hl.1 rfl (lv_room (Nat.le_of_ble_eq_true rfl)) dL_law_1307 ⟨(by show cells + 5 + 0 ≤ 601024; omega), (by show slots + 30 + 0 ≤ 7293034; omega)⟩) hS (fun q _ h => hFy q h) hFy (fun rv u5 t H2 locs2 ht9 hvm hw hBx hz2 hk2 hS => ?_)
  subst hw
  obtain ⟨hP2, hD2⟩ := hBx
  rw [ht9] at hP2
  obtain ⟨hP, hD⟩ := wjr hP hD (fun q h => Nat.le_trans hS0.1 h) hP2 hD2 hk2
  refine lv_lstore (lv' := [(6, .long r.1), (5, .int kv), (4, .int i), (0, .ref b), (1, .ref qk), (2, .ref hm), (3, .ref qo)]) hx hb dL_law_1310 hl (by decide) rfl (fun ls hl => ?_)
  refine lv_aload_n hx hb dL_law_1312 rfl (lv_at hl 5 rfl) ?_
  have hPy := wp_r hP
  refine cSi (W.runV (As := []) (rest := []) ⟨hx, hb, hml, hown, hts⟩ (m_X5_thrown l D cI cJ cO hm y.1 y.2.1 y.2.2.1 y.2.2.2 r.2.1 r.2.2.1 r.2.2.2.1 r.2.2.2.2.1 r.2.2.2.2.2.1 r.2.2.2.2.2.2 (r.2.1 0) rfl) (cwV 0 hts gL_law_X5_thrown rfl rfl rfl (by decide +kernel) ⟨(Nat.le_of_ble_eq_true rfl), (Nat.le_of_ble_eq_true rfl)⟩) ⟨pw_blind, va_recv hK hPy (ci := 4) (q0 := 0) rfl rfl, fun U hU hW => ⟨rfl, pw_at hZ hS hPy hK hU hW (Or.inl rfl) [0, 1, 2, 3, 4] rfl⟩⟩ rfl rfl hl.1 rfl (lv_room (Nat.le_of_ble_eq_true rfl)) dL_law_1313 ⟨(by show cells + 5 ≤ 601024; omega), (by show slots + 30 ≤ 7293034; omega)⟩) ?_
  refine lv_iload hx hb dL_law_1316 (lv_at hl 1 rfl) ?_
  refine lv_icmp_eq (tgt := 1323) hx hb dL_law_1318 (by decide) (fun _ => ?_) (fun c0 => absurd (ha.trans ekv.symm) c0)
  refine lv_iload hx hb dL_law_1323 (lv_at hl 1 rfl) ?_
  refine lv_if_ne (tgt := 1339) hx hb dL_law_1325 (by decide) (fun _ => ?_) (fun c0 => ?_)
  · refine lv_goto (tgt := 1686) hx hb dL_law_1339 (by decide) ?_
    exact kk _ _ _ _ _ hP hD hS (lv_sub hl [2, 3, 4, 5, 6] rfl)
  · rcases hR : R with u | E0
    · have hfv := hf1 u hR
      have hve := hv u hR
      have hPx := wp_l hP
      refine lv_aload_n hx hb dL_law_1328 rfl (lv_at hl 6 rfl) ?_
      refine lv_iconst (v := 0) hx hb dL_law_1329 (by decide) ?_
      refine va_lald hx hb hK hPx 0 1 rfl rfl in01 dL_law_1330 ?_
      refine lv_lload hx hb dL_law_1331 (lv_at hl 0 rfl) ?_
      refine W.lcmp hx hb dL_law_1333 ?_
      refine lv_if_eq (tgt := 1339) hx hb dL_law_1334 (by decide) (fun _ => ?_) (fun c1 => absurd ((lg_cmp_eq _ _).mpr (hfv.trans hve)) c1)
      refine lv_goto (tgt := 1686) hx hb dL_law_1339 (by decide) ?_
      exact kk _ _ _ _ _ hP hD hS (lv_sub hl [2, 3, 4, 5, 6] rfl)
    · have hm9 := hE0 E0 hR
      have h9 : kR ["java/lang/IndexOutOfBoundsException", "java/lang/IllegalArgumentException", "java/lang/IllegalStateException"] R = 0 := ekv.symm.trans c0
      rw [hR] at h9
      simp only [List.mem_cons, List.not_mem_nil, or_false] at hm9
      rcases hm9 with rfl | rfl | rfl <;> exact absurd h9 (by decide)
set_option maxHeartbeats 4000000 in
set_option maxRecDepth 100000 in
theorem lc_pass {p : Program} {l : Launch} {e : Env} {s : State} {m : MethodId} {below : List Frame} {meth : Method} {c : Code} {b L : Nat} {xs : Nat → Int32} {D : va_G} {cI cJ cO : ClassId} {ah : Nat} (E : LE p s l m meth c b L xs D cI cJ cO ah) {Q : State → Prop} {N : Nat} {qk qo hm : Nat} {i : Int32} (hi : ∀ k : Int32, k ∈ [1, 2, 3, 4, 5] → vp_in (i + k) L) {cells slots : Nat} (hc : cells + 9 ≤ 601024) (hs : slots + 182 ≤ 7293034) {H : Heap} {locs : List Loc} {z : AZ} {f : Nat → Int64} {g : SG} {y : Nat × Nat × Nat × Nat} {μ : SM} (hP : va_P D vwCl (WL cI cJ cO qk qo hm z f g y μ) H) (hD : va_D (fun q => s.heap.size ≤ q) (WL cI cJ cO qk qo hm z f g y μ)) (hS : va_S (fun q => s.heap.size ≤ q) s.heap H locs) {ls : Array Slot} (hl : lv_has ls 9 [(4, .int i), (0, .ref b), (1, .ref qk), (2, .ref hm), (3, .ref qo)]) {R : (Int64 × SG) ⊕ String} {r : Int64 × SM} (hk : k_pass N g (xs (i + 1).toNatClampNeg) = some R) (hm5 : q_pass N μ (xs (i + 1).toNatClampNeg) = some r) (hE0 : ∀ E, R = .inr E → E ∈ ["java/lang/IllegalArgumentException", "java/lang/IllegalStateException"]) (ha : r.2.1 0 = kR ["java/lang/IllegalArgumentException", "java/lang/IllegalStateException"] R) (hv : ∀ u, R = .inl u → u.1 = r.1) (kk : ∀ (z1 : AZ) (f1 : Nat → Int64) (H1 : Heap) (locs1 : List Loc) (ls1 : Array Slot), va_P D vwCl (WL cI cJ cO qk qo hm z1 f1 (gR g R) y r.2) H1 → va_D (fun q => s.heap.size ≤ q) (WL cI cJ cO qk qo hm z1 f1 (gR g R) y r.2) → va_S (fun q => s.heap.size ≤ q) s.heap H1 locs1 → lv_has ls1 9 [(4, .int i), (0, .ref b), (1, .ref qk), (2, .ref hm), (3, .ref qo)] → W p l e room_1 s m #[.ref b] below meth c H1 locs1 (cells + 1) (slots + 6) Q (F0 m 1686 ls1 [])) : W p l e room_1 s m #[.ref b] below meth c H locs cells slots Q (F0 m 1342 ls []) := by
  obtain ⟨hx, hb, hml, hown, hts, hX, hbl, hK, hZ, hT, hNc, hl0⟩ := E
  have hA : ∀ q : Nat, s.heap.size ≤ q → (fun q : Nat => s.heap.size ≤ q) q := fun _ h => h
  have hbA : ¬ (fun q : Nat => s.heap.size ≤ q) b := Nat.not_le.mpr hbl
  refine lv_aload_n hx hb dL_law_1342 rfl (lv_at hl 2 rfl) ?_
  refine lv_aload_n hx hb dL_law_1343 rfl (lv_at hl 1 rfl) ?_
  refine lv_iload hx hb dL_law_1344 (lv_at hl 0 rfl) ?_
  refine lv_iconst (v := 1) hx hb dL_law_1346 (by decide) ?_
  refine lv_iadd hx hb dL_law_1347 ?_
  refine va_sld hx hb hX hbl hbA hS (hi 1 (by decide)) dL_law_1348 ?_
  refine lv_aload_n hx hb dL_law_1349 rfl (lv_at hl 4 rfl) ?_
  have hPx := wp_l hP
  have hDx := wd_l hD
  have hFx : ∀ q, va_A (XW cI cJ cO qk qo z f g) H.size q → s.heap.size ≤ q := va_A_of hDx hS hA
  refine xH (vx_runSW (As := [.ref qk, .int (xs (i + 1).toNatClampNeg), .ref qo]) (rest := []) ⟨hx, hb, hml, hown, hts⟩ (h_pass l D cI cJ cO ah qk qo f z g H.size N (xs (i + 1).toNatClampNeg) R hl0 hk hE0) (vx_cwSW 3 hts gL_law_L_pass rfl rfl rfl (by decide +kernel) ⟨(Nat.le_of_ble_eq_true rfl), (Nat.le_of_ble_eq_true rfl)⟩) ⟨hp_blind, fun U hU hW => ⟨rfl, ⟨mp_at hZ hS hPx hK hDx hFx hU hW (Or.inr rfl), by rw [hU]; exact px_at hT hS hW hFx⟩, ncs_moved hW.alike hNc⟩⟩ rfl rfl hl.1 rfl (lv_room (Nat.le_of_ble_eq_true rfl)) dL_law_1350 ⟨(by show cells + 1 ≤ 601024; omega), (by show slots + 6 ≤ 7293034; omega)⟩) hS hFx (fun z1 f1 H1 locs1 hf1 hP1 hD1 hz1 hk1 hS1 => ?_)
  obtain ⟨hP, hD⟩ := wj hP hD (fun q h => Nat.le_trans hS.1 h) hP1 hD1 hk1
  have hS := hS1
  have hS0 := hS1
  obtain ⟨kv, ekv⟩ : ∃ v, v = kR ["java/lang/IllegalArgumentException", "java/lang/IllegalStateException"] R := ⟨_, rfl⟩
  rw [← ekv]
  refine lv_istore (lv' := [(5, .int kv), (4, .int i), (0, .ref b), (1, .ref qk), (2, .ref hm), (3, .ref qo)]) hx hb dL_law_1353 hl (by decide) rfl (fun ls hl => ?_)
  refine lv_aload_n hx hb dL_law_1355 rfl (lv_at hl 4 rfl) ?_
  refine lv_aload_n hx hb dL_law_1356 rfl (lv_at hl 2 rfl) ?_
  refine lv_iload hx hb dL_law_1357 (lv_at hl 1 rfl) ?_
  refine lv_iconst (v := 1) hx hb dL_law_1359 (by decide) ?_
  refine lv_iadd hx hb dL_law_1360 ?_
  refine va_sld hx hb hX hbl hbA hS (hi 1 (by decide)) dL_law_1361 ?_
  have hPy := wp_r hP
  have hDy := wd_r hD
  have hFy : ∀ q, va_A (YW cI cJ hm y μ) H1.size q → s.heap.size ≤ q := va_A_of hDy hS hA
  refine va_calll (va_runV (As := [.int (xs (i + 1).toNatClampNeg)]) (rest := []) ⟨hx, hb, hml, hown, hts⟩ (v_pass l D cI cJ cO hm y μ H1.size N (xs (i + 1).toNatClampNeg) r hm5) (cwV 1 hts gL_law_X5_pass rfl rfl rfl (by decide +kernel) ⟨(Nat.le_of_ble_eq_true rfl), (Nat.le_of_ble_eq_true rfl)⟩) ⟨mp_blind, va_recv hK hPy (ci := 4) (q0 := 0) rfl rfl, fun U hU hW => ⟨rfl, mp_at hZ hS hPy hK hDy hFy hU hW (Or.inl rfl)⟩⟩ rfl rfl hl.1 rfl (lv_room (Nat.le_of_ble_eq_true rfl)) dL_law_1362 ⟨(by show cells + 1 + 0 ≤ 601024; omega), (by show slots + 6 + 0 ≤ 7293034; omega)⟩) hS (fun q _ h => hFy q h) hFy (fun rv u5 t H2 locs2 ht9 hvm hw hBx hz2 hk2 hS => ?_)
  subst hw
  obtain ⟨hP2, hD2⟩ := hBx
  rw [ht9] at hP2
  obtain ⟨hP, hD⟩ := wjr hP hD (fun q h => Nat.le_trans hS0.1 h) hP2 hD2 hk2
  refine lv_lstore (lv' := [(6, .long r.1), (5, .int kv), (4, .int i), (0, .ref b), (1, .ref qk), (2, .ref hm), (3, .ref qo)]) hx hb dL_law_1365 hl (by decide) rfl (fun ls hl => ?_)
  refine lv_aload_n hx hb dL_law_1367 rfl (lv_at hl 5 rfl) ?_
  have hPy := wp_r hP
  refine cSi (W.runV (As := []) (rest := []) ⟨hx, hb, hml, hown, hts⟩ (m_X5_thrown l D cI cJ cO hm y.1 y.2.1 y.2.2.1 y.2.2.2 r.2.1 r.2.2.1 r.2.2.2.1 r.2.2.2.2.1 r.2.2.2.2.2.1 r.2.2.2.2.2.2 (r.2.1 0) rfl) (cwV 0 hts gL_law_X5_thrown rfl rfl rfl (by decide +kernel) ⟨(Nat.le_of_ble_eq_true rfl), (Nat.le_of_ble_eq_true rfl)⟩) ⟨pw_blind, va_recv hK hPy (ci := 4) (q0 := 0) rfl rfl, fun U hU hW => ⟨rfl, pw_at hZ hS hPy hK hU hW (Or.inl rfl) [0, 1, 2, 3, 4] rfl⟩⟩ rfl rfl hl.1 rfl (lv_room (Nat.le_of_ble_eq_true rfl)) dL_law_1368 ⟨(by show cells + 1 ≤ 601024; omega), (by show slots + 6 ≤ 7293034; omega)⟩) ?_
  refine lv_iload hx hb dL_law_1371 (lv_at hl 1 rfl) ?_
  refine lv_icmp_eq (tgt := 1378) hx hb dL_law_1373 (by decide) (fun _ => ?_) (fun c0 => absurd (ha.trans ekv.symm) c0)
  refine lv_iload hx hb dL_law_1378 (lv_at hl 1 rfl) ?_
  refine lv_if_ne (tgt := 1394) hx hb dL_law_1380 (by decide) (fun _ => ?_) (fun c0 => ?_)
  · refine lv_goto (tgt := 1686) hx hb dL_law_1394 (by decide) ?_
    exact kk _ _ _ _ _ hP hD hS (lv_sub hl [2, 3, 4, 5, 6] rfl)
  · rcases hR : R with u | E0
    · have hfv := hf1 u hR
      have hve := hv u hR
      have hPx := wp_l hP
      refine lv_aload_n hx hb dL_law_1383 rfl (lv_at hl 6 rfl) ?_
      refine lv_iconst (v := 0) hx hb dL_law_1384 (by decide) ?_
      refine va_lald hx hb hK hPx 0 1 rfl rfl in01 dL_law_1385 ?_
      refine lv_lload hx hb dL_law_1386 (lv_at hl 0 rfl) ?_
      refine W.lcmp hx hb dL_law_1388 ?_
      refine lv_if_eq (tgt := 1394) hx hb dL_law_1389 (by decide) (fun _ => ?_) (fun c1 => absurd ((lg_cmp_eq _ _).mpr (hfv.trans hve)) c1)
      refine lv_goto (tgt := 1686) hx hb dL_law_1394 (by decide) ?_
      exact kk _ _ _ _ _ hP hD hS (lv_sub hl [2, 3, 4, 5, 6] rfl)
    · have hm9 := hE0 E0 hR
      have h9 : kR ["java/lang/IllegalArgumentException", "java/lang/IllegalStateException"] R = 0 := ekv.symm.trans c0
      rw [hR] at h9
      simp only [List.mem_cons, List.not_mem_nil, or_false] at hm9
      rcases hm9 with rfl | rfl <;> exact absurd h9 (by decide)
set_option maxHeartbeats 4000000 in
set_option maxRecDepth 100000 in
theorem lc_count {p : Program} {l : Launch} {e : Env} {s : State} {m : MethodId} {below : List Frame} {meth : Method} {c : Code} {b L : Nat} {xs : Nat → Int32} {D : va_G} {cI cJ cO : ClassId} {ah : Nat} (E : LE p s l m meth c b L xs D cI cJ cO ah) {Q : State → Prop} {N : Nat} {qk qo hm : Nat} {i : Int32} (hi : ∀ k : Int32, k ∈ [1, 2, 3, 4, 5] → vp_in (i + k) L) {cells slots : Nat} (hc : cells + 9 ≤ 601024) (hs : slots + 182 ≤ 7293034) {H : Heap} {locs : List Loc} {z : AZ} {f : Nat → Int64} {g : SG} {y : Nat × Nat × Nat × Nat} {μ : SM} (hP : va_P D vwCl (WL cI cJ cO qk qo hm z f g y μ) H) (hD : va_D (fun q => s.heap.size ≤ q) (WL cI cJ cO qk qo hm z f g y μ)) (hS : va_S (fun q => s.heap.size ≤ q) s.heap H locs) {ls : Array Slot} (hl : lv_has ls 9 [(4, .int i), (0, .ref b), (1, .ref qk), (2, .ref hm), (3, .ref qo)]) {R : (Int64 × SG) ⊕ String} {r : Int64 × SM} (hk : k_count N g (xs (i + 1).toNatClampNeg) = some R) (hm5 : q_count N μ (xs (i + 1).toNatClampNeg) = some r) (hE0 : ∀ E, R = .inr E → E ∈ ["java/lang/IndexOutOfBoundsException"]) (ha : r.2.1 0 = kR ["java/lang/IndexOutOfBoundsException"] R) (hv : ∀ u, R = .inl u → u.1 = r.1) (kk : ∀ (z1 : AZ) (f1 : Nat → Int64) (H1 : Heap) (locs1 : List Loc) (ls1 : Array Slot), va_P D vwCl (WL cI cJ cO qk qo hm z1 f1 (gR g R) y r.2) H1 → va_D (fun q => s.heap.size ≤ q) (WL cI cJ cO qk qo hm z1 f1 (gR g R) y r.2) → va_S (fun q => s.heap.size ≤ q) s.heap H1 locs1 → lv_has ls1 9 [(4, .int i), (0, .ref b), (1, .ref qk), (2, .ref hm), (3, .ref qo)] → W p l e room_1 s m #[.ref b] below meth c H1 locs1 (cells + 1) (slots + 6) Q (F0 m 1686 ls1 [])) : W p l e room_1 s m #[.ref b] below meth c H locs cells slots Q (F0 m 1397 ls []) := by
  obtain ⟨hx, hb, hml, hown, hts, hX, hbl, hK, hZ, hT, hNc, hl0⟩ := E
  have hA : ∀ q : Nat, s.heap.size ≤ q → (fun q : Nat => s.heap.size ≤ q) q := fun _ h => h
  have hbA : ¬ (fun q : Nat => s.heap.size ≤ q) b := Nat.not_le.mpr hbl
  refine lv_aload_n hx hb dL_law_1397 rfl (lv_at hl 2 rfl) ?_
  refine lv_aload_n hx hb dL_law_1398 rfl (lv_at hl 1 rfl) ?_
  refine lv_iload hx hb dL_law_1399 (lv_at hl 0 rfl) ?_
  refine lv_iconst (v := 1) hx hb dL_law_1401 (by decide) ?_
  refine lv_iadd hx hb dL_law_1402 ?_
  refine va_sld hx hb hX hbl hbA hS (hi 1 (by decide)) dL_law_1403 ?_
  refine lv_aload_n hx hb dL_law_1404 rfl (lv_at hl 4 rfl) ?_
  have hPx := wp_l hP
  have hDx := wd_l hD
  have hFx : ∀ q, va_A (XW cI cJ cO qk qo z f g) H.size q → s.heap.size ≤ q := va_A_of hDx hS hA
  refine xH (vx_runSW (As := [.ref qk, .int (xs (i + 1).toNatClampNeg), .ref qo]) (rest := []) ⟨hx, hb, hml, hown, hts⟩ (h_count l D cI cJ cO ah qk qo f z g H.size N (xs (i + 1).toNatClampNeg) R hl0 hk hE0) (vx_cwSW 3 hts gL_law_L_count rfl rfl rfl (by decide +kernel) ⟨(Nat.le_of_ble_eq_true rfl), (Nat.le_of_ble_eq_true rfl)⟩) ⟨hp_blind, fun U hU hW => ⟨rfl, ⟨mp_at hZ hS hPx hK hDx hFx hU hW (Or.inr rfl), by rw [hU]; exact px_at hT hS hW hFx⟩, ncs_moved hW.alike hNc⟩⟩ rfl rfl hl.1 rfl (lv_room (Nat.le_of_ble_eq_true rfl)) dL_law_1405 ⟨(by show cells + 1 ≤ 601024; omega), (by show slots + 6 ≤ 7293034; omega)⟩) hS hFx (fun z1 f1 H1 locs1 hf1 hP1 hD1 hz1 hk1 hS1 => ?_)
  obtain ⟨hP, hD⟩ := wj hP hD (fun q h => Nat.le_trans hS.1 h) hP1 hD1 hk1
  have hS := hS1
  have hS0 := hS1
  obtain ⟨kv, ekv⟩ : ∃ v, v = kR ["java/lang/IndexOutOfBoundsException"] R := ⟨_, rfl⟩
  rw [← ekv]
  refine lv_istore (lv' := [(5, .int kv), (4, .int i), (0, .ref b), (1, .ref qk), (2, .ref hm), (3, .ref qo)]) hx hb dL_law_1408 hl (by decide) rfl (fun ls hl => ?_)
  refine lv_aload_n hx hb dL_law_1410 rfl (lv_at hl 4 rfl) ?_
  refine lv_aload_n hx hb dL_law_1411 rfl (lv_at hl 2 rfl) ?_
  refine lv_iload hx hb dL_law_1412 (lv_at hl 1 rfl) ?_
  refine lv_iconst (v := 1) hx hb dL_law_1414 (by decide) ?_
  refine lv_iadd hx hb dL_law_1415 ?_
  refine va_sld hx hb hX hbl hbA hS (hi 1 (by decide)) dL_law_1416 ?_
  have hPy := wp_r hP
  have hDy := wd_r hD
  have hFy : ∀ q, va_A (YW cI cJ hm y μ) H1.size q → s.heap.size ≤ q := va_A_of hDy hS hA
  refine va_calll (va_runV (As := [.int (xs (i + 1).toNatClampNeg)]) (rest := []) ⟨hx, hb, hml, hown, hts⟩ (v_count l D cI cJ cO hm y μ H1.size N (xs (i + 1).toNatClampNeg) r hm5) (cwV 1 hts gL_law_X5_count rfl rfl rfl (by decide +kernel) ⟨(Nat.le_of_ble_eq_true rfl), (Nat.le_of_ble_eq_true rfl)⟩) ⟨mp_blind, va_recv hK hPy (ci := 4) (q0 := 0) rfl rfl, fun U hU hW => ⟨rfl, mp_at hZ hS hPy hK hDy hFy hU hW (Or.inl rfl)⟩⟩ rfl rfl hl.1 rfl (lv_room (Nat.le_of_ble_eq_true rfl)) dL_law_1417 ⟨(by show cells + 1 + 0 ≤ 601024; omega), (by show slots + 6 + 0 ≤ 7293034; omega)⟩) hS (fun q _ h => hFy q h) hFy (fun rv u5 t H2 locs2 ht9 hvm hw hBx hz2 hk2 hS => ?_)
  subst hw
  obtain ⟨hP2, hD2⟩ := hBx
  rw [ht9] at hP2
  obtain ⟨hP, hD⟩ := wjr hP hD (fun q h => Nat.le_trans hS0.1 h) hP2 hD2 hk2
  refine lv_lstore (lv' := [(6, .long r.1), (5, .int kv), (4, .int i), (0, .ref b), (1, .ref qk), (2, .ref hm), (3, .ref qo)]) hx hb dL_law_1420 hl (by decide) rfl (fun ls hl => ?_)
  refine lv_aload_n hx hb dL_law_1422 rfl (lv_at hl 5 rfl) ?_
  have hPy := wp_r hP
  refine cSi (W.runV (As := []) (rest := []) ⟨hx, hb, hml, hown, hts⟩ (m_X5_thrown l D cI cJ cO hm y.1 y.2.1 y.2.2.1 y.2.2.2 r.2.1 r.2.2.1 r.2.2.2.1 r.2.2.2.2.1 r.2.2.2.2.2.1 r.2.2.2.2.2.2 (r.2.1 0) rfl) (cwV 0 hts gL_law_X5_thrown rfl rfl rfl (by decide +kernel) ⟨(Nat.le_of_ble_eq_true rfl), (Nat.le_of_ble_eq_true rfl)⟩) ⟨pw_blind, va_recv hK hPy (ci := 4) (q0 := 0) rfl rfl, fun U hU hW => ⟨rfl, pw_at hZ hS hPy hK hU hW (Or.inl rfl) [0, 1, 2, 3, 4] rfl⟩⟩ rfl rfl hl.1 rfl (lv_room (Nat.le_of_ble_eq_true rfl)) dL_law_1423 ⟨(by show cells + 1 ≤ 601024; omega), (by show slots + 6 ≤ 7293034; omega)⟩) ?_
  refine lv_iload hx hb dL_law_1426 (lv_at hl 1 rfl) ?_
  refine lv_icmp_eq (tgt := 1433) hx hb dL_law_1428 (by decide) (fun _ => ?_) (fun c0 => absurd (ha.trans ekv.symm) c0)
  refine lv_iload hx hb dL_law_1433 (lv_at hl 1 rfl) ?_
  refine lv_if_ne (tgt := 1449) hx hb dL_law_1435 (by decide) (fun _ => ?_) (fun c0 => ?_)
  · refine lv_goto (tgt := 1686) hx hb dL_law_1449 (by decide) ?_
    exact kk _ _ _ _ _ hP hD hS (lv_sub hl [2, 3, 4, 5, 6] rfl)
  · rcases hR : R with u | E0
    · have hfv := hf1 u hR
      have hve := hv u hR
      have hPx := wp_l hP
      refine lv_aload_n hx hb dL_law_1438 rfl (lv_at hl 6 rfl) ?_
      refine lv_iconst (v := 0) hx hb dL_law_1439 (by decide) ?_
      refine va_lald hx hb hK hPx 0 1 rfl rfl in01 dL_law_1440 ?_
      refine lv_lload hx hb dL_law_1441 (lv_at hl 0 rfl) ?_
      refine W.lcmp hx hb dL_law_1443 ?_
      refine lv_if_eq (tgt := 1449) hx hb dL_law_1444 (by decide) (fun _ => ?_) (fun c1 => absurd ((lg_cmp_eq _ _).mpr (hfv.trans hve)) c1)
      refine lv_goto (tgt := 1686) hx hb dL_law_1449 (by decide) ?_
      exact kk _ _ _ _ _ hP hD hS (lv_sub hl [2, 3, 4, 5, 6] rfl)
    · have hm9 := hE0 E0 hR
      have h9 : kR ["java/lang/IndexOutOfBoundsException"] R = 0 := ekv.symm.trans c0
      rw [hR] at h9
      simp only [List.mem_cons, List.not_mem_nil, or_false] at hm9
      subst hm9; exact absurd h9 (by decide)
set_option maxHeartbeats 4000000 in
set_option maxRecDepth 100000 in
theorem lc_paysIn {p : Program} {l : Launch} {e : Env} {s : State} {m : MethodId} {below : List Frame} {meth : Method} {c : Code} {b L : Nat} {xs : Nat → Int32} {D : va_G} {cI cJ cO : ClassId} {ah : Nat} (E : LE p s l m meth c b L xs D cI cJ cO ah) {Q : State → Prop} {N : Nat} {qk qo hm : Nat} {i : Int32} (hi : ∀ k : Int32, k ∈ [1, 2, 3, 4, 5] → vp_in (i + k) L) {cells slots : Nat} (hc : cells + 9 ≤ 601024) (hs : slots + 182 ≤ 7293034) {H : Heap} {locs : List Loc} {z : AZ} {f : Nat → Int64} {g : SG} {y : Nat × Nat × Nat × Nat} {μ : SM} (hP : va_P D vwCl (WL cI cJ cO qk qo hm z f g y μ) H) (hD : va_D (fun q => s.heap.size ≤ q) (WL cI cJ cO qk qo hm z f g y μ)) (hS : va_S (fun q => s.heap.size ≤ q) s.heap H locs) {ls : Array Slot} (hl : lv_has ls 9 [(4, .int i), (0, .ref b), (1, .ref qk), (2, .ref hm), (3, .ref qo)]) {R : (Int64 × SG) ⊕ String} {r : Int64 × SM} (hk : k_paysIn N g (xs (i + 1).toNatClampNeg) = some R) (hm5 : q_paysIn N μ (xs (i + 1).toNatClampNeg) = some r) (hE0 : ∀ E, R = .inr E → E ∈ ["java/lang/IllegalArgumentException"]) (ha : r.2.1 0 = kR ["java/lang/IllegalArgumentException"] R) (hv : ∀ u, R = .inl u → u.1 = r.1) (kk : ∀ (z1 : AZ) (f1 : Nat → Int64) (H1 : Heap) (locs1 : List Loc) (ls1 : Array Slot), va_P D vwCl (WL cI cJ cO qk qo hm z1 f1 (gR g R) y r.2) H1 → va_D (fun q => s.heap.size ≤ q) (WL cI cJ cO qk qo hm z1 f1 (gR g R) y r.2) → va_S (fun q => s.heap.size ≤ q) s.heap H1 locs1 → lv_has ls1 9 [(4, .int i), (0, .ref b), (1, .ref qk), (2, .ref hm), (3, .ref qo)] → W p l e room_1 s m #[.ref b] below meth c H1 locs1 (cells + 1) (slots + 6) Q (F0 m 1686 ls1 [])) : W p l e room_1 s m #[.ref b] below meth c H locs cells slots Q (F0 m 1452 ls []) := by
  obtain ⟨hx, hb, hml, hown, hts, hX, hbl, hK, hZ, hT, hNc, hl0⟩ := E
  have hA : ∀ q : Nat, s.heap.size ≤ q → (fun q : Nat => s.heap.size ≤ q) q := fun _ h => h
  have hbA : ¬ (fun q : Nat => s.heap.size ≤ q) b := Nat.not_le.mpr hbl
  refine lv_aload_n hx hb dL_law_1452 rfl (lv_at hl 2 rfl) ?_
  refine lv_aload_n hx hb dL_law_1453 rfl (lv_at hl 1 rfl) ?_
  refine lv_iload hx hb dL_law_1454 (lv_at hl 0 rfl) ?_
  refine lv_iconst (v := 1) hx hb dL_law_1456 (by decide) ?_
  refine lv_iadd hx hb dL_law_1457 ?_
  refine va_sld hx hb hX hbl hbA hS (hi 1 (by decide)) dL_law_1458 ?_
  refine lv_aload_n hx hb dL_law_1459 rfl (lv_at hl 4 rfl) ?_
  have hPx := wp_l hP
  have hDx := wd_l hD
  have hFx : ∀ q, va_A (XW cI cJ cO qk qo z f g) H.size q → s.heap.size ≤ q := va_A_of hDx hS hA
  refine xH (vx_runSW (As := [.ref qk, .int (xs (i + 1).toNatClampNeg), .ref qo]) (rest := []) ⟨hx, hb, hml, hown, hts⟩ (h_paysIn l D cI cJ cO ah qk qo f z g H.size N (xs (i + 1).toNatClampNeg) R hl0 hk hE0) (vx_cwSW 3 hts gL_law_L_paysIn rfl rfl rfl (by decide +kernel) ⟨(Nat.le_of_ble_eq_true rfl), (Nat.le_of_ble_eq_true rfl)⟩) ⟨hp_blind, fun U hU hW => ⟨rfl, ⟨mp_at hZ hS hPx hK hDx hFx hU hW (Or.inr rfl), by rw [hU]; exact px_at hT hS hW hFx⟩, ncs_moved hW.alike hNc⟩⟩ rfl rfl hl.1 rfl (lv_room (Nat.le_of_ble_eq_true rfl)) dL_law_1460 ⟨(by show cells + 1 ≤ 601024; omega), (by show slots + 6 ≤ 7293034; omega)⟩) hS hFx (fun z1 f1 H1 locs1 hf1 hP1 hD1 hz1 hk1 hS1 => ?_)
  obtain ⟨hP, hD⟩ := wj hP hD (fun q h => Nat.le_trans hS.1 h) hP1 hD1 hk1
  have hS := hS1
  have hS0 := hS1
  obtain ⟨kv, ekv⟩ : ∃ v, v = kR ["java/lang/IllegalArgumentException"] R := ⟨_, rfl⟩
  rw [← ekv]
  refine lv_istore (lv' := [(5, .int kv), (4, .int i), (0, .ref b), (1, .ref qk), (2, .ref hm), (3, .ref qo)]) hx hb dL_law_1463 hl (by decide) rfl (fun ls hl => ?_)
  refine lv_aload_n hx hb dL_law_1465 rfl (lv_at hl 4 rfl) ?_
  refine lv_aload_n hx hb dL_law_1466 rfl (lv_at hl 2 rfl) ?_
  refine lv_iload hx hb dL_law_1467 (lv_at hl 1 rfl) ?_
  refine lv_iconst (v := 1) hx hb dL_law_1469 (by decide) ?_
  refine lv_iadd hx hb dL_law_1470 ?_
  refine va_sld hx hb hX hbl hbA hS (hi 1 (by decide)) dL_law_1471 ?_
  have hPy := wp_r hP
  have hDy := wd_r hD
  have hFy : ∀ q, va_A (YW cI cJ hm y μ) H1.size q → s.heap.size ≤ q := va_A_of hDy hS hA
  refine va_calll (va_runV (As := [.int (xs (i + 1).toNatClampNeg)]) (rest := []) ⟨hx, hb, hml, hown, hts⟩ (v_paysIn l D cI cJ cO hm y μ H1.size N (xs (i + 1).toNatClampNeg) r hm5) (cwV 1 hts gL_law_X5_paysIn rfl rfl rfl (by decide +kernel) ⟨(Nat.le_of_ble_eq_true rfl), (Nat.le_of_ble_eq_true rfl)⟩) ⟨mp_blind, va_recv hK hPy (ci := 4) (q0 := 0) rfl rfl, fun U hU hW => ⟨rfl, mp_at hZ hS hPy hK hDy hFy hU hW (Or.inl rfl)⟩⟩ rfl rfl hl.1 rfl (lv_room (Nat.le_of_ble_eq_true rfl)) dL_law_1472 ⟨(by show cells + 1 + 0 ≤ 601024; omega), (by show slots + 6 + 0 ≤ 7293034; omega)⟩) hS (fun q _ h => hFy q h) hFy (fun rv u5 t H2 locs2 ht9 hvm hw hBx hz2 hk2 hS => ?_)
  subst hw
  obtain ⟨hP2, hD2⟩ := hBx
  rw [ht9] at hP2
  obtain ⟨hP, hD⟩ := wjr hP hD (fun q h => Nat.le_trans hS0.1 h) hP2 hD2 hk2
  refine lv_lstore (lv' := [(6, .long r.1), (5, .int kv), (4, .int i), (0, .ref b), (1, .ref qk), (2, .ref hm), (3, .ref qo)]) hx hb dL_law_1475 hl (by decide) rfl (fun ls hl => ?_)
  refine lv_aload_n hx hb dL_law_1477 rfl (lv_at hl 5 rfl) ?_
  have hPy := wp_r hP
  refine cSi (W.runV (As := []) (rest := []) ⟨hx, hb, hml, hown, hts⟩ (m_X5_thrown l D cI cJ cO hm y.1 y.2.1 y.2.2.1 y.2.2.2 r.2.1 r.2.2.1 r.2.2.2.1 r.2.2.2.2.1 r.2.2.2.2.2.1 r.2.2.2.2.2.2 (r.2.1 0) rfl) (cwV 0 hts gL_law_X5_thrown rfl rfl rfl (by decide +kernel) ⟨(Nat.le_of_ble_eq_true rfl), (Nat.le_of_ble_eq_true rfl)⟩) ⟨pw_blind, va_recv hK hPy (ci := 4) (q0 := 0) rfl rfl, fun U hU hW => ⟨rfl, pw_at hZ hS hPy hK hU hW (Or.inl rfl) [0, 1, 2, 3, 4] rfl⟩⟩ rfl rfl hl.1 rfl (lv_room (Nat.le_of_ble_eq_true rfl)) dL_law_1478 ⟨(by show cells + 1 ≤ 601024; omega), (by show slots + 6 ≤ 7293034; omega)⟩) ?_
  refine lv_iload hx hb dL_law_1481 (lv_at hl 1 rfl) ?_
  refine lv_icmp_eq (tgt := 1488) hx hb dL_law_1483 (by decide) (fun _ => ?_) (fun c0 => absurd (ha.trans ekv.symm) c0)
  refine lv_iload hx hb dL_law_1488 (lv_at hl 1 rfl) ?_
  refine lv_if_ne (tgt := 1504) hx hb dL_law_1490 (by decide) (fun _ => ?_) (fun c0 => ?_)
  · refine lv_goto (tgt := 1686) hx hb dL_law_1504 (by decide) ?_
    exact kk _ _ _ _ _ hP hD hS (lv_sub hl [2, 3, 4, 5, 6] rfl)
  · rcases hR : R with u | E0
    · have hfv := hf1 u hR
      have hve := hv u hR
      have hPx := wp_l hP
      refine lv_aload_n hx hb dL_law_1493 rfl (lv_at hl 6 rfl) ?_
      refine lv_iconst (v := 0) hx hb dL_law_1494 (by decide) ?_
      refine va_lald hx hb hK hPx 0 1 rfl rfl in01 dL_law_1495 ?_
      refine lv_lload hx hb dL_law_1496 (lv_at hl 0 rfl) ?_
      refine W.lcmp hx hb dL_law_1498 ?_
      refine lv_if_eq (tgt := 1504) hx hb dL_law_1499 (by decide) (fun _ => ?_) (fun c1 => absurd ((lg_cmp_eq _ _).mpr (hfv.trans hve)) c1)
      refine lv_goto (tgt := 1686) hx hb dL_law_1504 (by decide) ?_
      exact kk _ _ _ _ _ hP hD hS (lv_sub hl [2, 3, 4, 5, 6] rfl)
    · have hm9 := hE0 E0 hR
      have h9 : kR ["java/lang/IllegalArgumentException"] R = 0 := ekv.symm.trans c0
      rw [hR] at h9
      simp only [List.mem_cons, List.not_mem_nil, or_false] at hm9
      subst hm9; exact absurd h9 (by decide)
set_option maxHeartbeats 4000000 in
set_option maxRecDepth 100000 in
theorem lc_ladder {p : Program} {l : Launch} {e : Env} {s : State} {m : MethodId} {below : List Frame} {meth : Method} {c : Code} {b L : Nat} {xs : Nat → Int32} {D : va_G} {cI cJ cO : ClassId} {ah : Nat} (E : LE p s l m meth c b L xs D cI cJ cO ah) {Q : State → Prop} {N : Nat} {qk qo hm : Nat} {i : Int32} (hi : ∀ k : Int32, k ∈ [1, 2, 3, 4, 5] → vp_in (i + k) L) {cells slots : Nat} (hc : cells + 9 ≤ 601024) (hs : slots + 182 ≤ 7293034) {H : Heap} {locs : List Loc} {z : AZ} {f : Nat → Int64} {g : SG} {y : Nat × Nat × Nat × Nat} {μ : SM} (hP : va_P D vwCl (WL cI cJ cO qk qo hm z f g y μ) H) (hD : va_D (fun q => s.heap.size ≤ q) (WL cI cJ cO qk qo hm z f g y μ)) (hS : va_S (fun q => s.heap.size ≤ q) s.heap H locs) {ls : Array Slot} (hl : lv_has ls 9 [(4, .int i), (0, .ref b), (1, .ref qk), (2, .ref hm), (3, .ref qo)]) {R : (Int32 × SG) ⊕ String} {r : Int32 × SM} (hk : k_ladder N g (xs (i + 1).toNatClampNeg) (xs (i + 2).toNatClampNeg) = some R) (hm5 : q_ladder N μ (xs (i + 1).toNatClampNeg) (xs (i + 2).toNatClampNeg) = some r) (hE0 : ∀ E, R = .inr E → E ∈ ["java/lang/IllegalArgumentException"]) (ha : r.2.1 0 = kR ["java/lang/IllegalArgumentException"] R) (hv : ∀ u, R = .inl u → u.1.toInt64 = r.1.toInt64) (kk : ∀ (z1 : AZ) (f1 : Nat → Int64) (H1 : Heap) (locs1 : List Loc) (ls1 : Array Slot), va_P D vwCl (WL cI cJ cO qk qo hm z1 f1 (gR g R) y r.2) H1 → va_D (fun q => s.heap.size ≤ q) (WL cI cJ cO qk qo hm z1 f1 (gR g R) y r.2) → va_S (fun q => s.heap.size ≤ q) s.heap H1 locs1 → lv_has ls1 9 [(4, .int i), (0, .ref b), (1, .ref qk), (2, .ref hm), (3, .ref qo)] → W p l e room_1 s m #[.ref b] below meth c H1 locs1 (cells + 3) (slots + 18) Q (F0 m 1686 ls1 [])) : W p l e room_1 s m #[.ref b] below meth c H locs cells slots Q (F0 m 1507 ls []) := by
  obtain ⟨hx, hb, hml, hown, hts, hX, hbl, hK, hZ, hT, hNc, hl0⟩ := E
  have hA : ∀ q : Nat, s.heap.size ≤ q → (fun q : Nat => s.heap.size ≤ q) q := fun _ h => h
  have hbA : ¬ (fun q : Nat => s.heap.size ≤ q) b := Nat.not_le.mpr hbl
  refine lv_aload_n hx hb dL_law_1507 rfl (lv_at hl 2 rfl) ?_
  refine lv_aload_n hx hb dL_law_1508 rfl (lv_at hl 1 rfl) ?_
  refine lv_iload hx hb dL_law_1509 (lv_at hl 0 rfl) ?_
  refine lv_iconst (v := 1) hx hb dL_law_1511 (by decide) ?_
  refine lv_iadd hx hb dL_law_1512 ?_
  refine va_sld hx hb hX hbl hbA hS (hi 1 (by decide)) dL_law_1513 ?_
  refine lv_aload_n hx hb dL_law_1514 rfl (lv_at hl 1 rfl) ?_
  refine lv_iload hx hb dL_law_1515 (lv_at hl 0 rfl) ?_
  refine lv_iconst (v := 2) hx hb dL_law_1517 (by decide) ?_
  refine lv_iadd hx hb dL_law_1518 ?_
  refine va_sld hx hb hX hbl hbA hS (hi 2 (by decide)) dL_law_1519 ?_
  refine lv_aload_n hx hb dL_law_1520 rfl (lv_at hl 4 rfl) ?_
  have hPx := wp_l hP
  have hDx := wd_l hD
  have hFx : ∀ q, va_A (XW cI cJ cO qk qo z f g) H.size q → s.heap.size ≤ q := va_A_of hDx hS hA
  refine xH (vx_runSW (As := [.ref qk, .int (xs (i + 1).toNatClampNeg), .int (xs (i + 2).toNatClampNeg), .ref qo]) (rest := []) ⟨hx, hb, hml, hown, hts⟩ (h_ladder l D cI cJ cO ah qk qo f z g H.size N (xs (i + 1).toNatClampNeg) (xs (i + 2).toNatClampNeg) R hl0 hk hE0) (vx_cwSW 4 hts gL_law_L_ladder rfl rfl rfl (by decide +kernel) ⟨(Nat.le_of_ble_eq_true rfl), (Nat.le_of_ble_eq_true rfl)⟩) ⟨hp_blind, fun U hU hW => ⟨rfl, ⟨mp_at hZ hS hPx hK hDx hFx hU hW (Or.inr rfl), by rw [hU]; exact px_at hT hS hW hFx⟩, ncs_moved hW.alike hNc⟩⟩ rfl rfl hl.1 rfl (lv_room (Nat.le_of_ble_eq_true rfl)) dL_law_1521 ⟨(by show cells + 3 ≤ 601024; omega), (by show slots + 18 ≤ 7293034; omega)⟩) hS hFx (fun z1 f1 H1 locs1 hf1 hP1 hD1 hz1 hk1 hS1 => ?_)
  obtain ⟨hP, hD⟩ := wj hP hD (fun q h => Nat.le_trans hS.1 h) hP1 hD1 hk1
  have hS := hS1
  have hS0 := hS1
  obtain ⟨kv, ekv⟩ : ∃ v, v = kR ["java/lang/IllegalArgumentException"] R := ⟨_, rfl⟩
  rw [← ekv]
  refine lv_istore (lv' := [(5, .int kv), (4, .int i), (0, .ref b), (1, .ref qk), (2, .ref hm), (3, .ref qo)]) hx hb dL_law_1524 hl (by decide) rfl (fun ls hl => ?_)
  refine lv_aload_n hx hb dL_law_1526 rfl (lv_at hl 4 rfl) ?_
  refine lv_aload_n hx hb dL_law_1527 rfl (lv_at hl 2 rfl) ?_
  refine lv_iload hx hb dL_law_1528 (lv_at hl 1 rfl) ?_
  refine lv_iconst (v := 1) hx hb dL_law_1530 (by decide) ?_
  refine lv_iadd hx hb dL_law_1531 ?_
  refine va_sld hx hb hX hbl hbA hS (hi 1 (by decide)) dL_law_1532 ?_
  refine lv_aload_n hx hb dL_law_1533 rfl (lv_at hl 2 rfl) ?_
  refine lv_iload hx hb dL_law_1534 (lv_at hl 1 rfl) ?_
  refine lv_iconst (v := 2) hx hb dL_law_1536 (by decide) ?_
  refine lv_iadd hx hb dL_law_1537 ?_
  refine va_sld hx hb hX hbl hbA hS (hi 2 (by decide)) dL_law_1538 ?_
  have hPy := wp_r hP
  have hDy := wd_r hD
  have hFy : ∀ q, va_A (YW cI cJ hm y μ) H1.size q → s.heap.size ≤ q := va_A_of hDy hS hA
  refine va_calli (va_runV (As := [.int (xs (i + 1).toNatClampNeg), .int (xs (i + 2).toNatClampNeg)]) (rest := []) ⟨hx, hb, hml, hown, hts⟩ (v_ladder l D cI cJ cO hm y μ H1.size N (xs (i + 1).toNatClampNeg) (xs (i + 2).toNatClampNeg) r hm5) (cwV 2 hts gL_law_X5_ladder rfl rfl rfl (by decide +kernel) ⟨(Nat.le_of_ble_eq_true rfl), (Nat.le_of_ble_eq_true rfl)⟩) ⟨mp_blind, va_recv hK hPy (ci := 4) (q0 := 0) rfl rfl, fun U hU hW => ⟨rfl, mp_at hZ hS hPy hK hDy hFy hU hW (Or.inl rfl)⟩⟩ rfl rfl hl.1 rfl (lv_room (Nat.le_of_ble_eq_true rfl)) dL_law_1539 ⟨(by show cells + 3 + 0 ≤ 601024; omega), (by show slots + 18 + 0 ≤ 7293034; omega)⟩) hS (fun q _ h => hFy q h) hFy (fun rv u5 t H2 locs2 ht9 hvm hw hBx hz2 hk2 hS => ?_)
  subst hw
  obtain ⟨hP2, hD2⟩ := hBx
  rw [ht9] at hP2
  obtain ⟨hP, hD⟩ := wjr hP hD (fun q h => Nat.le_trans hS0.1 h) hP2 hD2 hk2
  refine lv_istore (lv' := [(6, .int r.1), (5, .int kv), (4, .int i), (0, .ref b), (1, .ref qk), (2, .ref hm), (3, .ref qo)]) hx hb dL_law_1542 hl (by decide) rfl (fun ls hl => ?_)
  refine lv_aload_n hx hb dL_law_1544 rfl (lv_at hl 5 rfl) ?_
  have hPy := wp_r hP
  refine cSi (W.runV (As := []) (rest := []) ⟨hx, hb, hml, hown, hts⟩ (m_X5_thrown l D cI cJ cO hm y.1 y.2.1 y.2.2.1 y.2.2.2 r.2.1 r.2.2.1 r.2.2.2.1 r.2.2.2.2.1 r.2.2.2.2.2.1 r.2.2.2.2.2.2 (r.2.1 0) rfl) (cwV 0 hts gL_law_X5_thrown rfl rfl rfl (by decide +kernel) ⟨(Nat.le_of_ble_eq_true rfl), (Nat.le_of_ble_eq_true rfl)⟩) ⟨pw_blind, va_recv hK hPy (ci := 4) (q0 := 0) rfl rfl, fun U hU hW => ⟨rfl, pw_at hZ hS hPy hK hU hW (Or.inl rfl) [0, 1, 2, 3, 4] rfl⟩⟩ rfl rfl hl.1 rfl (lv_room (Nat.le_of_ble_eq_true rfl)) dL_law_1545 ⟨(by show cells + 3 ≤ 601024; omega), (by show slots + 18 ≤ 7293034; omega)⟩) ?_
  refine lv_iload hx hb dL_law_1548 (lv_at hl 1 rfl) ?_
  refine lv_icmp_eq (tgt := 1555) hx hb dL_law_1550 (by decide) (fun _ => ?_) (fun c0 => absurd (ha.trans ekv.symm) c0)
  refine lv_iload hx hb dL_law_1555 (lv_at hl 1 rfl) ?_
  refine lv_if_ne (tgt := 1572) hx hb dL_law_1557 (by decide) (fun _ => ?_) (fun c0 => ?_)
  · refine lv_goto (tgt := 1686) hx hb dL_law_1572 (by decide) ?_
    exact kk _ _ _ _ _ hP hD hS (lv_sub hl [2, 3, 4, 5, 6] rfl)
  · rcases hR : R with u | E0
    · have hfv := hf1 u hR
      have hve := hv u hR
      have hPx := wp_l hP
      refine lv_aload_n hx hb dL_law_1560 rfl (lv_at hl 6 rfl) ?_
      refine lv_iconst (v := 0) hx hb dL_law_1561 (by decide) ?_
      refine va_lald hx hb hK hPx 0 1 rfl rfl in01 dL_law_1562 ?_
      refine lv_iload hx hb dL_law_1563 (lv_at hl 0 rfl) ?_
      refine lv_i2l hx hb dL_law_1565 rfl ?_
      refine W.lcmp hx hb dL_law_1566 ?_
      refine lv_if_eq (tgt := 1572) hx hb dL_law_1567 (by decide) (fun _ => ?_) (fun c1 => absurd ((lg_cmp_eq _ _).mpr (hfv.trans hve)) c1)
      refine lv_goto (tgt := 1686) hx hb dL_law_1572 (by decide) ?_
      exact kk _ _ _ _ _ hP hD hS (lv_sub hl [2, 3, 4, 5, 6] rfl)
    · have hm9 := hE0 E0 hR
      have h9 : kR ["java/lang/IllegalArgumentException"] R = 0 := ekv.symm.trans c0
      rw [hR] at h9
      simp only [List.mem_cons, List.not_mem_nil, or_false] at hm9
      subst hm9; exact absurd h9 (by decide)
set_option maxHeartbeats 4000000 in
set_option maxRecDepth 100000 in
theorem lc_best {p : Program} {l : Launch} {e : Env} {s : State} {m : MethodId} {below : List Frame} {meth : Method} {c : Code} {b L : Nat} {xs : Nat → Int32} {D : va_G} {cI cJ cO : ClassId} {ah : Nat} (E : LE p s l m meth c b L xs D cI cJ cO ah) {Q : State → Prop} {N : Nat} {qk qo hm : Nat} {i : Int32} (hi : ∀ k : Int32, k ∈ [1, 2, 3, 4, 5] → vp_in (i + k) L) {cells slots : Nat} (hc : cells + 9 ≤ 601024) (hs : slots + 182 ≤ 7293034) {H : Heap} {locs : List Loc} {z : AZ} {f : Nat → Int64} {g : SG} {y : Nat × Nat × Nat × Nat} {μ : SM} (hP : va_P D vwCl (WL cI cJ cO qk qo hm z f g y μ) H) (hD : va_D (fun q => s.heap.size ≤ q) (WL cI cJ cO qk qo hm z f g y μ)) (hS : va_S (fun q => s.heap.size ≤ q) s.heap H locs) {ls : Array Slot} (hl : lv_has ls 9 [(4, .int i), (0, .ref b), (1, .ref qk), (2, .ref hm), (3, .ref qo)]) {R : (Int32 × SG) ⊕ String} {r : Int32 × SM} (hk : k_best N g (xs (i + 1).toNatClampNeg) = some R) (hm5 : q_best N μ (xs (i + 1).toNatClampNeg) = some r) (hE0 : ∀ E, R = .inr E → E ∈ ["java/lang/IllegalArgumentException"]) (ha : r.2.1 0 = kR ["java/lang/IllegalArgumentException"] R) (hv : ∀ u, R = .inl u → u.1.toInt64 = r.1.toInt64) (kk : ∀ (z1 : AZ) (f1 : Nat → Int64) (H1 : Heap) (locs1 : List Loc) (ls1 : Array Slot), va_P D vwCl (WL cI cJ cO qk qo hm z1 f1 (gR g R) y r.2) H1 → va_D (fun q => s.heap.size ≤ q) (WL cI cJ cO qk qo hm z1 f1 (gR g R) y r.2) → va_S (fun q => s.heap.size ≤ q) s.heap H1 locs1 → lv_has ls1 9 [(4, .int i), (0, .ref b), (1, .ref qk), (2, .ref hm), (3, .ref qo)] → W p l e room_1 s m #[.ref b] below meth c H1 locs1 (cells + 1) (slots + 6) Q (F0 m 1686 ls1 [])) : W p l e room_1 s m #[.ref b] below meth c H locs cells slots Q (F0 m 1575 ls []) := by
  obtain ⟨hx, hb, hml, hown, hts, hX, hbl, hK, hZ, hT, hNc, hl0⟩ := E
  have hA : ∀ q : Nat, s.heap.size ≤ q → (fun q : Nat => s.heap.size ≤ q) q := fun _ h => h
  have hbA : ¬ (fun q : Nat => s.heap.size ≤ q) b := Nat.not_le.mpr hbl
  refine lv_aload_n hx hb dL_law_1575 rfl (lv_at hl 2 rfl) ?_
  refine lv_aload_n hx hb dL_law_1576 rfl (lv_at hl 1 rfl) ?_
  refine lv_iload hx hb dL_law_1577 (lv_at hl 0 rfl) ?_
  refine lv_iconst (v := 1) hx hb dL_law_1579 (by decide) ?_
  refine lv_iadd hx hb dL_law_1580 ?_
  refine va_sld hx hb hX hbl hbA hS (hi 1 (by decide)) dL_law_1581 ?_
  refine lv_aload_n hx hb dL_law_1582 rfl (lv_at hl 4 rfl) ?_
  have hPx := wp_l hP
  have hDx := wd_l hD
  have hFx : ∀ q, va_A (XW cI cJ cO qk qo z f g) H.size q → s.heap.size ≤ q := va_A_of hDx hS hA
  refine xH (vx_runSW (As := [.ref qk, .int (xs (i + 1).toNatClampNeg), .ref qo]) (rest := []) ⟨hx, hb, hml, hown, hts⟩ (h_best l D cI cJ cO ah qk qo f z g H.size N (xs (i + 1).toNatClampNeg) R hl0 hk hE0) (vx_cwSW 3 hts gL_law_L_best rfl rfl rfl (by decide +kernel) ⟨(Nat.le_of_ble_eq_true rfl), (Nat.le_of_ble_eq_true rfl)⟩) ⟨hp_blind, fun U hU hW => ⟨rfl, ⟨mp_at hZ hS hPx hK hDx hFx hU hW (Or.inr rfl), by rw [hU]; exact px_at hT hS hW hFx⟩, ncs_moved hW.alike hNc⟩⟩ rfl rfl hl.1 rfl (lv_room (Nat.le_of_ble_eq_true rfl)) dL_law_1583 ⟨(by show cells + 1 ≤ 601024; omega), (by show slots + 6 ≤ 7293034; omega)⟩) hS hFx (fun z1 f1 H1 locs1 hf1 hP1 hD1 hz1 hk1 hS1 => ?_)
  obtain ⟨hP, hD⟩ := wj hP hD (fun q h => Nat.le_trans hS.1 h) hP1 hD1 hk1
  have hS := hS1
  have hS0 := hS1
  obtain ⟨kv, ekv⟩ : ∃ v, v = kR ["java/lang/IllegalArgumentException"] R := ⟨_, rfl⟩
  rw [← ekv]
  refine lv_istore (lv' := [(5, .int kv), (4, .int i), (0, .ref b), (1, .ref qk), (2, .ref hm), (3, .ref qo)]) hx hb dL_law_1586 hl (by decide) rfl (fun ls hl => ?_)
  refine lv_aload_n hx hb dL_law_1588 rfl (lv_at hl 4 rfl) ?_
  refine lv_aload_n hx hb dL_law_1589 rfl (lv_at hl 2 rfl) ?_
  refine lv_iload hx hb dL_law_1590 (lv_at hl 1 rfl) ?_
  refine lv_iconst (v := 1) hx hb dL_law_1592 (by decide) ?_
  refine lv_iadd hx hb dL_law_1593 ?_
  refine va_sld hx hb hX hbl hbA hS (hi 1 (by decide)) dL_law_1594 ?_
  have hPy := wp_r hP
  have hDy := wd_r hD
  have hFy : ∀ q, va_A (YW cI cJ hm y μ) H1.size q → s.heap.size ≤ q := va_A_of hDy hS hA
  refine va_calli (va_runV (As := [.int (xs (i + 1).toNatClampNeg)]) (rest := []) ⟨hx, hb, hml, hown, hts⟩ (v_best l D cI cJ cO hm y μ H1.size N (xs (i + 1).toNatClampNeg) r hm5) (cwV 1 hts gL_law_X5_best rfl rfl rfl (by decide +kernel) ⟨(Nat.le_of_ble_eq_true rfl), (Nat.le_of_ble_eq_true rfl)⟩) ⟨mp_blind, va_recv hK hPy (ci := 4) (q0 := 0) rfl rfl, fun U hU hW => ⟨rfl, mp_at hZ hS hPy hK hDy hFy hU hW (Or.inl rfl)⟩⟩ rfl rfl hl.1 rfl (lv_room (Nat.le_of_ble_eq_true rfl)) dL_law_1595 ⟨(by show cells + 1 + 0 ≤ 601024; omega), (by show slots + 6 + 0 ≤ 7293034; omega)⟩) hS (fun q _ h => hFy q h) hFy (fun rv u5 t H2 locs2 ht9 hvm hw hBx hz2 hk2 hS => ?_)
  subst hw
  obtain ⟨hP2, hD2⟩ := hBx
  rw [ht9] at hP2
  obtain ⟨hP, hD⟩ := wjr hP hD (fun q h => Nat.le_trans hS0.1 h) hP2 hD2 hk2
  refine lv_istore (lv' := [(6, .int r.1), (5, .int kv), (4, .int i), (0, .ref b), (1, .ref qk), (2, .ref hm), (3, .ref qo)]) hx hb dL_law_1598 hl (by decide) rfl (fun ls hl => ?_)
  refine lv_aload_n hx hb dL_law_1600 rfl (lv_at hl 5 rfl) ?_
  have hPy := wp_r hP
  refine cSi (W.runV (As := []) (rest := []) ⟨hx, hb, hml, hown, hts⟩ (m_X5_thrown l D cI cJ cO hm y.1 y.2.1 y.2.2.1 y.2.2.2 r.2.1 r.2.2.1 r.2.2.2.1 r.2.2.2.2.1 r.2.2.2.2.2.1 r.2.2.2.2.2.2 (r.2.1 0) rfl) (cwV 0 hts gL_law_X5_thrown rfl rfl rfl (by decide +kernel) ⟨(Nat.le_of_ble_eq_true rfl), (Nat.le_of_ble_eq_true rfl)⟩) ⟨pw_blind, va_recv hK hPy (ci := 4) (q0 := 0) rfl rfl, fun U hU hW => ⟨rfl, pw_at hZ hS hPy hK hU hW (Or.inl rfl) [0, 1, 2, 3, 4] rfl⟩⟩ rfl rfl hl.1 rfl (lv_room (Nat.le_of_ble_eq_true rfl)) dL_law_1601 ⟨(by show cells + 1 ≤ 601024; omega), (by show slots + 6 ≤ 7293034; omega)⟩) ?_
  refine lv_iload hx hb dL_law_1604 (lv_at hl 1 rfl) ?_
  refine lv_icmp_eq (tgt := 1611) hx hb dL_law_1606 (by decide) (fun _ => ?_) (fun c0 => absurd (ha.trans ekv.symm) c0)
  refine lv_iload hx hb dL_law_1611 (lv_at hl 1 rfl) ?_
  refine lv_if_ne (tgt := 1628) hx hb dL_law_1613 (by decide) (fun _ => ?_) (fun c0 => ?_)
  · refine lv_goto (tgt := 1686) hx hb dL_law_1628 (by decide) ?_
    exact kk _ _ _ _ _ hP hD hS (lv_sub hl [2, 3, 4, 5, 6] rfl)
  · rcases hR : R with u | E0
    · have hfv := hf1 u hR
      have hve := hv u hR
      have hPx := wp_l hP
      refine lv_aload_n hx hb dL_law_1616 rfl (lv_at hl 6 rfl) ?_
      refine lv_iconst (v := 0) hx hb dL_law_1617 (by decide) ?_
      refine va_lald hx hb hK hPx 0 1 rfl rfl in01 dL_law_1618 ?_
      refine lv_iload hx hb dL_law_1619 (lv_at hl 0 rfl) ?_
      refine lv_i2l hx hb dL_law_1621 rfl ?_
      refine W.lcmp hx hb dL_law_1622 ?_
      refine lv_if_eq (tgt := 1628) hx hb dL_law_1623 (by decide) (fun _ => ?_) (fun c1 => absurd ((lg_cmp_eq _ _).mpr (hfv.trans hve)) c1)
      refine lv_goto (tgt := 1686) hx hb dL_law_1628 (by decide) ?_
      exact kk _ _ _ _ _ hP hD hS (lv_sub hl [2, 3, 4, 5, 6] rfl)
    · have hm9 := hE0 E0 hR
      have h9 : kR ["java/lang/IllegalArgumentException"] R = 0 := ekv.symm.trans c0
      rw [hR] at h9
      simp only [List.mem_cons, List.not_mem_nil, or_false] at hm9
      subst hm9; exact absurd h9 (by decide)
set_option maxHeartbeats 4000000 in
set_option maxRecDepth 100000 in
theorem lc_years {p : Program} {l : Launch} {e : Env} {s : State} {m : MethodId} {below : List Frame} {meth : Method} {c : Code} {b L : Nat} {xs : Nat → Int32} {D : va_G} {cI cJ cO : ClassId} {ah : Nat} (E : LE p s l m meth c b L xs D cI cJ cO ah) {Q : State → Prop} {N : Nat} {qk qo hm : Nat} {i : Int32} (hi : ∀ k : Int32, k ∈ [1, 2, 3, 4, 5] → vp_in (i + k) L) {cells slots : Nat} (hc : cells + 9 ≤ 601024) (hs : slots + 182 ≤ 7293034) {H : Heap} {locs : List Loc} {z : AZ} {f : Nat → Int64} {g : SG} {y : Nat × Nat × Nat × Nat} {μ : SM} (hP : va_P D vwCl (WL cI cJ cO qk qo hm z f g y μ) H) (hD : va_D (fun q => s.heap.size ≤ q) (WL cI cJ cO qk qo hm z f g y μ)) (hS : va_S (fun q => s.heap.size ≤ q) s.heap H locs) {ls : Array Slot} (hl : lv_has ls 9 [(4, .int i), (0, .ref b), (1, .ref qk), (2, .ref hm), (3, .ref qo)]) {r : UInt64 × SM} (hk : f_X4_years N g.1 g.2.2.2.2.1 g.2.2.2.2.2.1 g.2.2.2.2.2.2.1 = some r.1) (hm5 : q_years N μ = some r) (kk : ∀ (z1 : AZ) (f1 : Nat → Int64) (H1 : Heap) (locs1 : List Loc) (ls1 : Array Slot), va_P D vwCl (WL cI cJ cO qk qo hm z1 f1 g y r.2) H1 → va_D (fun q => s.heap.size ≤ q) (WL cI cJ cO qk qo hm z1 f1 g y r.2) → va_S (fun q => s.heap.size ≤ q) s.heap H1 locs1 → lv_has ls1 9 [(4, .int i), (0, .ref b), (1, .ref qk), (2, .ref hm), (3, .ref qo)] → W p l e room_1 s m #[.ref b] below meth c H1 locs1 (cells + 0) (slots + 0) Q (F0 m 1686 ls1 [])) : W p l e room_1 s m #[.ref b] below meth c H locs cells slots Q (F0 m 1631 ls []) := by
  obtain ⟨hx, hb, hml, hown, hts, hX, hbl, hK, hZ, hT, hNc, hl0⟩ := E
  have hA : ∀ q : Nat, s.heap.size ≤ q → (fun q : Nat => s.heap.size ≤ q) q := fun _ h => h
  have hbA : ¬ (fun q : Nat => s.heap.size ≤ q) b := Nat.not_le.mpr hbl
  refine lv_aload_n hx hb dL_law_1631 rfl (lv_at hl 2 rfl) ?_
  have hPx := wp_l hP
  have hPd := wp_tail hPx
  have hPk := wp_l hPd
  refine cSd (W.runV (As := []) (rest := []) ⟨hx, hb, hml, hown, hts⟩ (m_X4_years l D cI cJ cO ah qk z.1 z.2.1 z.2.2.1 z.2.2.2.1 z.2.2.2.2.1 z.2.2.2.2.2 g.1 g.2.1 g.2.2.1 g.2.2.2.1 g.2.2.2.2.1 g.2.2.2.2.2.1 g.2.2.2.2.2.2.1 g.2.2.2.2.2.2.2.1 g.2.2.2.2.2.2.2.2.1 g.2.2.2.2.2.2.2.2.2 N r.1 hk) (cwV 0 hts gL_law_X4_years rfl rfl rfl (by decide +kernel) ⟨(Nat.le_of_ble_eq_true rfl), (Nat.le_of_ble_eq_true rfl)⟩) ⟨pwB_blind, va_recv hK hPx (ci := 3) (q0 := 1) rfl rfl, fun U hU hW => ⟨rfl, pw_at hZ hS hPk hK hU hW (Or.inr rfl) [0, 1, 2, 3] rfl, fun i hi => by rw [hU]; exact bl_fam hPd i hi⟩⟩ rfl rfl hl.1 rfl (lv_room (Nat.le_of_ble_eq_true rfl)) dL_law_1632 ⟨(by show cells + 0 ≤ 601024; omega), (by show slots + 0 ≤ 7293034; omega)⟩) ?_
  refine lv_dstore (lv' := [(5, .double r.1), (4, .int i), (0, .ref b), (1, .ref qk), (2, .ref hm), (3, .ref qo)]) hx hb dL_law_1635 hl (by decide) rfl (fun ls hl => ?_)
  refine lv_aload_n hx hb dL_law_1637 rfl (lv_at hl 4 rfl) ?_
  have hS0 := hS
  have hPy := wp_r hP
  have hDy := wd_r hD
  have hFy : ∀ q, va_A (YW cI cJ hm y μ) H.size q → s.heap.size ≤ q := va_A_of hDy hS hA
  refine va_calld (va_runV (As := []) (rest := []) ⟨hx, hb, hml, hown, hts⟩ (v_years l D cI cJ cO hm y μ H.size N  r hm5) (cwV 0 hts gL_law_X5_years rfl rfl rfl (by decide +kernel) ⟨(Nat.le_of_ble_eq_true rfl), (Nat.le_of_ble_eq_true rfl)⟩) ⟨mp_blind, va_recv hK hPy (ci := 4) (q0 := 0) rfl rfl, fun U hU hW => ⟨rfl, mp_at hZ hS hPy hK hDy hFy hU hW (Or.inl rfl)⟩⟩ rfl rfl hl.1 rfl (lv_room (Nat.le_of_ble_eq_true rfl)) dL_law_1638 ⟨(by show cells + 0 ≤ 601024; omega), (by show slots + 0 ≤ 7293034; omega)⟩) hS (fun q _ h => hFy q h) hFy (fun rv u5 t H2 locs2 ht9 hvm hw hBx hz2 hk2 hS => ?_)
  subst hw
  obtain ⟨hP2, hD2⟩ := hBx
  rw [ht9] at hP2
  obtain ⟨hP, hD⟩ := wjr hP hD (fun q h => Nat.le_trans hS0.1 h) hP2 hD2 hk2
  refine lv_dstore (lv' := [(7, .double r.1), (5, .double r.1), (4, .int i), (0, .ref b), (1, .ref qk), (2, .ref hm), (3, .ref qo)]) hx hb dL_law_1641 hl (by decide) rfl (fun ls hl => ?_)
  refine lv_dload hx hb dL_law_1643 (lv_at hl 1 rfl) ?_
  refine lv_dload hx hb dL_law_1645 (lv_at hl 0 rfl) ?_
  refine lv_dcmp hx hb dL_law_1647 ?_
  obtain ⟨v, hv0⟩ : ∃ v, v = Op.cmpValue (FP.dcmp r.1 r.1) CmpOp.l := ⟨_, rfl⟩
  rw [← hv0]
  refine lv_if_eq (tgt := 1669) hx hb dL_law_1648 (by decide) (fun _ => ?_) (fun c0 => ?_)
  · refine lv_goto (tgt := 1686) hx hb dL_law_1669 (by decide) ?_
    exact kk _ _ _ _ _ hP hD hS (lv_sub hl [2, 3, 4, 5, 6] rfl)
  · have c9 := c0
    refine lv_dload hx hb dL_law_1651 (lv_at hl 1 rfl) ?_
    refine lv_dload hx hb dL_law_1653 (lv_at hl 1 rfl) ?_
    refine lv_dcmp hx hb dL_law_1655 ?_
    rw [← hv0]
    refine lv_if_eq (tgt := 1667) hx hb dL_law_1656 (by decide) (fun c1 => absurd c1 c0) (fun _ => ?_)
    refine lv_dload hx hb dL_law_1659 (lv_at hl 0 rfl) ?_
    refine lv_dload hx hb dL_law_1661 (lv_at hl 0 rfl) ?_
    refine lv_dcmp hx hb dL_law_1663 ?_
    rw [← hv0]
    refine lv_if_ne (tgt := 1669) hx hb dL_law_1664 (by decide) (fun _ => ?_) (fun c1 => absurd c1 c0)
    refine lv_goto (tgt := 1686) hx hb dL_law_1669 (by decide) ?_
    exact kk _ _ _ _ _ hP hD hS (lv_sub hl [2, 3, 4, 5, 6] rfl)
set_option maxHeartbeats 4000000 in
set_option maxRecDepth 100000 in
theorem lc_digest {p : Program} {l : Launch} {e : Env} {s : State} {m : MethodId} {below : List Frame} {meth : Method} {c : Code} {b L : Nat} {xs : Nat → Int32} {D : va_G} {cI cJ cO : ClassId} {ah : Nat} (E : LE p s l m meth c b L xs D cI cJ cO ah) {Q : State → Prop} {N : Nat} {qk qo hm : Nat} {i : Int32} (hi : ∀ k : Int32, k ∈ [1, 2, 3, 4, 5] → vp_in (i + k) L) {cells slots : Nat} (hc : cells + 9 ≤ 601024) (hs : slots + 182 ≤ 7293034) {H : Heap} {locs : List Loc} {z : AZ} {f : Nat → Int64} {g : SG} {y : Nat × Nat × Nat × Nat} {μ : SM} (hP : va_P D vwCl (WL cI cJ cO qk qo hm z f g y μ) H) (hD : va_D (fun q => s.heap.size ≤ q) (WL cI cJ cO qk qo hm z f g y μ)) (hS : va_S (fun q => s.heap.size ≤ q) s.heap H locs) {ls : Array Slot} (hl : lv_has ls 9 [(4, .int i), (0, .ref b), (1, .ref qk), (2, .ref hm), (3, .ref qo)]) {r : Int64 × SM} (hk : f_X4_digest N g.1 g.2.1 g.2.2.1 g.2.2.2.1 g.2.2.2.2.1 g.2.2.2.2.2.1 g.2.2.2.2.2.2.1 g.2.2.2.2.2.2.2.1 g.2.2.2.2.2.2.2.2.1 g.2.2.2.2.2.2.2.2.2 = some r.1) (hm5 : q_digest N μ = some r) (kk : ∀ (z1 : AZ) (f1 : Nat → Int64) (H1 : Heap) (locs1 : List Loc) (ls1 : Array Slot), va_P D vwCl (WL cI cJ cO qk qo hm z1 f1 g y r.2) H1 → va_D (fun q => s.heap.size ≤ q) (WL cI cJ cO qk qo hm z1 f1 g y r.2) → va_S (fun q => s.heap.size ≤ q) s.heap H1 locs1 → lv_has ls1 9 [(4, .int i), (0, .ref b), (1, .ref qk), (2, .ref hm), (3, .ref qo)] → W p l e room_1 s m #[.ref b] below meth c H1 locs1 (cells + 0) (slots + 0) Q (F0 m 1686 ls1 [])) : W p l e room_1 s m #[.ref b] below meth c H locs cells slots Q (F0 m 1672 ls []) := by
  obtain ⟨hx, hb, hml, hown, hts, hX, hbl, hK, hZ, hT, hNc, hl0⟩ := E
  have hA : ∀ q : Nat, s.heap.size ≤ q → (fun q : Nat => s.heap.size ≤ q) q := fun _ h => h
  have hbA : ¬ (fun q : Nat => s.heap.size ≤ q) b := Nat.not_le.mpr hbl
  refine lv_aload_n hx hb dL_law_1672 rfl (lv_at hl 2 rfl) ?_
  have hPx := wp_l hP
  have hPd := wp_tail hPx
  have hPk := wp_l hPd
  refine cSl (W.runV (As := []) (rest := []) ⟨hx, hb, hml, hown, hts⟩ (m_X4_digest l D cI cJ cO ah qk z.1 z.2.1 z.2.2.1 z.2.2.2.1 z.2.2.2.2.1 z.2.2.2.2.2 g.1 g.2.1 g.2.2.1 g.2.2.2.1 g.2.2.2.2.1 g.2.2.2.2.2.1 g.2.2.2.2.2.2.1 g.2.2.2.2.2.2.2.1 g.2.2.2.2.2.2.2.2.1 g.2.2.2.2.2.2.2.2.2 N r.1 hk) (cwV 0 hts gL_law_X4_digest rfl rfl rfl (by decide +kernel) ⟨(Nat.le_of_ble_eq_true rfl), (Nat.le_of_ble_eq_true rfl)⟩) ⟨pwB_blind, va_recv hK hPx (ci := 3) (q0 := 1) rfl rfl, fun U hU hW => ⟨rfl, pw_at hZ hS hPk hK hU hW (Or.inr rfl) [0, 1, 2, 3] rfl, fun i hi => by rw [hU]; exact bl_fam hPd i hi⟩⟩ rfl rfl hl.1 rfl (lv_room (Nat.le_of_ble_eq_true rfl)) dL_law_1673 ⟨(by show cells + 0 ≤ 601024; omega), (by show slots + 0 ≤ 7293034; omega)⟩) ?_
  refine lv_aload_n hx hb dL_law_1676 rfl (lv_at hl 3 rfl) ?_
  have hS0 := hS
  have hPy := wp_r hP
  have hDy := wd_r hD
  have hFy : ∀ q, va_A (YW cI cJ hm y μ) H.size q → s.heap.size ≤ q := va_A_of hDy hS hA
  refine va_calll (va_runV (As := []) (rest := [.long r.1]) ⟨hx, hb, hml, hown, hts⟩ (v_digest l D cI cJ cO hm y μ H.size N  r hm5) (cwV 0 hts gL_law_X5_digest rfl rfl rfl (by decide +kernel) ⟨(Nat.le_of_ble_eq_true rfl), (Nat.le_of_ble_eq_true rfl)⟩) ⟨mp_blind, va_recv hK hPy (ci := 4) (q0 := 0) rfl rfl, fun U hU hW => ⟨rfl, mp_at hZ hS hPy hK hDy hFy hU hW (Or.inl rfl)⟩⟩ rfl rfl hl.1 rfl (lv_room (Nat.le_of_ble_eq_true rfl)) dL_law_1677 ⟨(by show cells + 0 ≤ 601024; omega), (by show slots + 0 ≤ 7293034; omega)⟩) hS (fun q _ h => hFy q h) hFy (fun rv u5 t H2 locs2 ht9 hvm hw hBx hz2 hk2 hS => ?_)
  subst hw
  obtain ⟨hP2, hD2⟩ := hBx
  rw [ht9] at hP2
  obtain ⟨hP, hD⟩ := wjr hP hD (fun q h => Nat.le_trans hS0.1 h) hP2 hD2 hk2
  refine W.lcmp hx hb dL_law_1680 ?_
  refine lv_if_eq (tgt := 1686) hx hb dL_law_1681 (by decide) (fun _ => ?_) (fun c1 => absurd ((lg_cmp_eq _ _).mpr rfl) c1)
  exact kk _ _ _ _ _ hP hD hS (lv_sub hl [0, 1, 2, 3, 4] rfl)
