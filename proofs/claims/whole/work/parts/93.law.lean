/-! ===== the law, over any invariant ===== -/
abbrev mL : MD := (x, code, 4, some .boolean)
theorem E.weak {g : GL} {M : MD} {d kc ks kc' ks' pc n : Nat} {ls st : List Value} {I : IM} {J : JM} {R : RM} {Q : PQ} (h1 : kc ≤ kc') (h2 : ks ≤ ks') (k : E g M d kc ks pc ls st n I J R Q) : E g M d kc' ks' pc ls st n I J R Q := by
  intro p l e Rm s m args below meth c H locs cells slots mc ms la Z
  obtain ⟨z1, z2, z3, z4⟩ := Z
  exact k p l e Rm s m args below meth c H locs cells slots mc ms la ⟨z1, z2, ⟨by omega, by omega, z3.2.2⟩, z4⟩
abbrev IV : Type := Nat → IM → JM → RM → Prop
/-- both answer alike, and the invariant holds again -/
def PairV (INV : IV) (Mx Mm : MD) (As : List Value) (vl : Value → Prop) : Prop := ∀ (g : GL) (n : Nat) (I : IM) (J : JM) (R : RM), INV n I J R → ∃ (r : Value) (P : IV) (kx sx : Nat), vl r ∧ kx ≤ 153 - n ∧ sx ≤ 49500 * (153 - n) ∧
  (∀ Q : PQ, (∀ n' I' J' R', 152 ≤ n' → n' ≤ 153 → kx + (153 - n') ≤ 153 - n → sx + 49500 * (153 - n') ≤ 49500 * (153 - n) → P n' I' J' R' → Q (some r) n' I' J' R') → E g Mx 900 kx sx 0 (ent Mx.2.2.1 (.ref 0 :: As)) [] n I J R Q) ∧
  ∀ n' I' J' R', P n' I' J' R' → ∀ Q : PQ, (∀ I2 J2 R2, INV n' I2 J2 R2 → Q (some r) n' I2 J2 R2) → E g Mm 900 0 0 0 (ent Mm.2.2.1 (.ref 114 :: As)) [] n' I' J' R' Q
def PairI (INV : IV) (Mx Mm : MD) (As : List Value) : Prop := PairV INV Mx Mm As (fun v => ∃ z : Int32, v = .int z)
def PairL (INV : IV) (Mx Mm : MD) (As : List Value) : Prop := PairV INV Mx Mm As (fun v => ∃ z : Int64, v = .long z)
theorem lg_self (z : Int64) : lg_cmp z z = 0 := by
  unfold lg_cmp
  simp
set_option maxRecDepth 100000 in
set_option maxHeartbeats 400000 in
theorem lc_0 {INV : IV} (hn : ∀ n I J R, INV n I J R → 152 ≤ n ∧ n ≤ 153) (hp : ∀ a1 : Int32, PairI INV mX11_screw mX12_screw [.int a1]) {g : GL} {i n kc ks : Nat} {I : IM} {J : JM} {R : RM} {Q : PQ} (hi : i + 6 ≤ (gX g).2.1) (hL : (gX g).2.1 ≤ 3072) (h : INV n I J R) (hk : 153 - n ≤ kc) (hs : 49500 * (153 - n) ≤ ks) (K : ∀ n' I' J' R' kc' ks', INV n' I' J' R' → 153 - n' ≤ kc' → 49500 * (153 - n') ≤ ks' → E g mL 1000 kc' ks' 954 [.retAddr 0, .ref 0, .ref 114, .int (nI i)] [] n' I' J' R' Q) : E g mL 1000 kc ks 148 [.retAddr 0, .ref 0, .ref 114, .int (nI i)] [] n I J R Q := by
  have hn1 := hn n I J R h
  obtain ⟨r, P, kx, sx, ⟨z, rfl⟩, e1, e2, hX, hM⟩ := hp ((gX g).2.2 (nI (i + 1)).toNatClampNeg) g n I J R h
  refine E_aload_n dL_law_148 rfl ?_
  refine E_xload_n dL_law_149 rfl ⟨_, rfl⟩ ?_
  refine E_iload_n dL_law_150 rfl ?_
  refine E_ic (1) dL_law_151 (by decide) ?_
  refine E_iadd dL_law_152 ?_
  refine E.top (show nI i + 1 = nI (i + 1) from nI_add i 1) ?_
  refine E_sld dL_law_153 (vp_in_nI (by omega) (by omega)) ?_
  refine E.weak (kc := kx + (kc - kx)) (ks := sx + (ks - sx)) (by omega) (by omega) ?_
  refine E_callV (As := [_]) (ci := 10) (d' := 900) (kc' := kx) (ks' := sx) (kc := kc - kx) (ks := ks - sx) dL_law_154 ok_X11_screw w_L_13 i_X11_screw s_X11_screw rfl (by decide) rfl (by omega) rfl rfl rfl (Nat.le_of_ble_eq_true rfl) (Nat.le_of_ble_eq_true rfl) (by decide) (hX _ (fun n' I' J' R' b1 b2 b3 b4 hP => ?_))
  refine E_aload_n dL_law_157 rfl ?_
  refine E_xload_n dL_law_158 rfl ⟨_, rfl⟩ ?_
  refine E_iload_n dL_law_159 rfl ?_
  refine E_ic (1) dL_law_160 (by decide) ?_
  refine E_iadd dL_law_161 ?_
  refine E.top (show nI i + 1 = nI (i + 1) from nI_add i 1) ?_
  refine E_sld dL_law_162 (vp_in_nI (by omega) (by omega)) ?_
  refine E.weak (kc := 0 + (kc - kx)) (ks := 0 + (ks - sx)) (by omega) (by omega) ?_
  refine E_callV (As := [_]) (ci := 11) (d' := 900) (kc' := 0) (ks' := 0) (kc := kc - kx) (ks := ks - sx) dL_law_163 ok_X12_screw w_L_17 i_X12_screw s_X12_screw rfl (by decide) rfl (by omega) rfl rfl rfl (Nat.le_of_ble_eq_true rfl) (Nat.le_of_ble_eq_true rfl) (by decide) (hM _ _ _ _ hP _ (fun I2 J2 R2 hI2 => ?_))
  refine E_icmp_eq (tgt := 954) dL_law_166 (by decide) (fun _ => ?_) (fun c => absurd rfl c)
  exact K _ _ _ _ _ _ hI2 (by omega) (by omega)
set_option maxRecDepth 100000 in
set_option maxHeartbeats 400000 in
theorem lc_1 {INV : IV} (hn : ∀ n I J R, INV n I J R → 152 ≤ n ∧ n ≤ 153) (hp : ∀ a1 a2 a3 a4 a5 : Int32, PairI INV mX11_feed mX12_feed [.int a1, .int a2, .int a3, .int a4, .int a5]) {g : GL} {i n kc ks : Nat} {I : IM} {J : JM} {R : RM} {Q : PQ} (hi : i + 6 ≤ (gX g).2.1) (hL : (gX g).2.1 ≤ 3072) (h : INV n I J R) (hk : 153 - n ≤ kc) (hs : 49500 * (153 - n) ≤ ks) (K : ∀ n' I' J' R' kc' ks', INV n' I' J' R' → 153 - n' ≤ kc' → 49500 * (153 - n') ≤ ks' → E g mL 1000 kc' ks' 954 [.retAddr 0, .ref 0, .ref 114, .int (nI i)] [] n' I' J' R' Q) : E g mL 1000 kc ks 171 [.retAddr 0, .ref 0, .ref 114, .int (nI i)] [] n I J R Q := by
  have hn1 := hn n I J R h
  obtain ⟨r, P, kx, sx, ⟨z, rfl⟩, e1, e2, hX, hM⟩ := hp ((gX g).2.2 (nI (i + 1)).toNatClampNeg) ((gX g).2.2 (nI (i + 2)).toNatClampNeg) ((gX g).2.2 (nI (i + 3)).toNatClampNeg) ((gX g).2.2 (nI (i + 4)).toNatClampNeg) ((gX g).2.2 (nI (i + 5)).toNatClampNeg) g n I J R h
  refine E_aload_n dL_law_171 rfl ?_
  refine E_xload_n dL_law_172 rfl ⟨_, rfl⟩ ?_
  refine E_iload_n dL_law_173 rfl ?_
  refine E_ic (1) dL_law_174 (by decide) ?_
  refine E_iadd dL_law_175 ?_
  refine E.top (show nI i + 1 = nI (i + 1) from nI_add i 1) ?_
  refine E_sld dL_law_176 (vp_in_nI (by omega) (by omega)) ?_
  refine E_xload_n dL_law_177 rfl ⟨_, rfl⟩ ?_
  refine E_iload_n dL_law_178 rfl ?_
  refine E_ic (2) dL_law_179 (by decide) ?_
  refine E_iadd dL_law_180 ?_
  refine E.top (show nI i + 2 = nI (i + 2) from nI_add i 2) ?_
  refine E_sld dL_law_181 (vp_in_nI (by omega) (by omega)) ?_
  refine E_xload_n dL_law_182 rfl ⟨_, rfl⟩ ?_
  refine E_iload_n dL_law_183 rfl ?_
  refine E_ic (3) dL_law_184 (by decide) ?_
  refine E_iadd dL_law_185 ?_
  refine E.top (show nI i + 3 = nI (i + 3) from nI_add i 3) ?_
  refine E_sld dL_law_186 (vp_in_nI (by omega) (by omega)) ?_
  refine E_xload_n dL_law_187 rfl ⟨_, rfl⟩ ?_
  refine E_iload_n dL_law_188 rfl ?_
  refine E_ic (4) dL_law_189 (by decide) ?_
  refine E_iadd dL_law_190 ?_
  refine E.top (show nI i + 4 = nI (i + 4) from nI_add i 4) ?_
  refine E_sld dL_law_191 (vp_in_nI (by omega) (by omega)) ?_
  refine E_xload_n dL_law_192 rfl ⟨_, rfl⟩ ?_
  refine E_iload_n dL_law_193 rfl ?_
  refine E_ic (5) dL_law_194 (by decide) ?_
  refine E_iadd dL_law_195 ?_
  refine E.top (show nI i + 5 = nI (i + 5) from nI_add i 5) ?_
  refine E_sld dL_law_196 (vp_in_nI (by omega) (by omega)) ?_
  refine E.weak (kc := kx + (kc - kx)) (ks := sx + (ks - sx)) (by omega) (by omega) ?_
  refine E_callV (As := [_, _, _, _, _]) (ci := 10) (d' := 900) (kc' := kx) (ks' := sx) (kc := kc - kx) (ks := ks - sx) dL_law_197 ok_X11_feed w_L_18 i_X11_feed s_X11_feed rfl (by decide) rfl (by omega) rfl rfl rfl (Nat.le_of_ble_eq_true rfl) (Nat.le_of_ble_eq_true rfl) (by decide) (hX _ (fun n' I' J' R' b1 b2 b3 b4 hP => ?_))
  refine E_aload_n dL_law_200 rfl ?_
  refine E_xload_n dL_law_201 rfl ⟨_, rfl⟩ ?_
  refine E_iload_n dL_law_202 rfl ?_
  refine E_ic (1) dL_law_203 (by decide) ?_
  refine E_iadd dL_law_204 ?_
  refine E.top (show nI i + 1 = nI (i + 1) from nI_add i 1) ?_
  refine E_sld dL_law_205 (vp_in_nI (by omega) (by omega)) ?_
  refine E_xload_n dL_law_206 rfl ⟨_, rfl⟩ ?_
  refine E_iload_n dL_law_207 rfl ?_
  refine E_ic (2) dL_law_208 (by decide) ?_
  refine E_iadd dL_law_209 ?_
  refine E.top (show nI i + 2 = nI (i + 2) from nI_add i 2) ?_
  refine E_sld dL_law_210 (vp_in_nI (by omega) (by omega)) ?_
  refine E_xload_n dL_law_211 rfl ⟨_, rfl⟩ ?_
  refine E_iload_n dL_law_212 rfl ?_
  refine E_ic (3) dL_law_213 (by decide) ?_
  refine E_iadd dL_law_214 ?_
  refine E.top (show nI i + 3 = nI (i + 3) from nI_add i 3) ?_
  refine E_sld dL_law_215 (vp_in_nI (by omega) (by omega)) ?_
  refine E_xload_n dL_law_216 rfl ⟨_, rfl⟩ ?_
  refine E_iload_n dL_law_217 rfl ?_
  refine E_ic (4) dL_law_218 (by decide) ?_
  refine E_iadd dL_law_219 ?_
  refine E.top (show nI i + 4 = nI (i + 4) from nI_add i 4) ?_
  refine E_sld dL_law_220 (vp_in_nI (by omega) (by omega)) ?_
  refine E_xload_n dL_law_221 rfl ⟨_, rfl⟩ ?_
  refine E_iload_n dL_law_222 rfl ?_
  refine E_ic (5) dL_law_223 (by decide) ?_
  refine E_iadd dL_law_224 ?_
  refine E.top (show nI i + 5 = nI (i + 5) from nI_add i 5) ?_
  refine E_sld dL_law_225 (vp_in_nI (by omega) (by omega)) ?_
  refine E.weak (kc := 0 + (kc - kx)) (ks := 0 + (ks - sx)) (by omega) (by omega) ?_
  refine E_callV (As := [_, _, _, _, _]) (ci := 11) (d' := 900) (kc' := 0) (ks' := 0) (kc := kc - kx) (ks := ks - sx) dL_law_226 ok_X12_feed w_L_22 i_X12_feed s_X12_feed rfl (by decide) rfl (by omega) rfl rfl rfl (Nat.le_of_ble_eq_true rfl) (Nat.le_of_ble_eq_true rfl) (by decide) (hM _ _ _ _ hP _ (fun I2 J2 R2 hI2 => ?_))
  refine E_icmp_eq (tgt := 954) dL_law_229 (by decide) (fun _ => ?_) (fun c => absurd rfl c)
  exact K _ _ _ _ _ _ hI2 (by omega) (by omega)
set_option maxRecDepth 100000 in
set_option maxHeartbeats 400000 in
theorem lc_2 {INV : IV} (hn : ∀ n I J R, INV n I J R → 152 ≤ n ∧ n ≤ 153) (hp : ∀ a1 : Int32, PairI INV mX11_law mX12_law [.int a1]) {g : GL} {i n kc ks : Nat} {I : IM} {J : JM} {R : RM} {Q : PQ} (hi : i + 6 ≤ (gX g).2.1) (hL : (gX g).2.1 ≤ 3072) (h : INV n I J R) (hk : 153 - n ≤ kc) (hs : 49500 * (153 - n) ≤ ks) (K : ∀ n' I' J' R' kc' ks', INV n' I' J' R' → 153 - n' ≤ kc' → 49500 * (153 - n') ≤ ks' → E g mL 1000 kc' ks' 954 [.retAddr 0, .ref 0, .ref 114, .int (nI i)] [] n' I' J' R' Q) : E g mL 1000 kc ks 234 [.retAddr 0, .ref 0, .ref 114, .int (nI i)] [] n I J R Q := by
  have hn1 := hn n I J R h
  obtain ⟨r, P, kx, sx, ⟨z, rfl⟩, e1, e2, hX, hM⟩ := hp ((gX g).2.2 (nI (i + 1)).toNatClampNeg) g n I J R h
  refine E_aload_n dL_law_234 rfl ?_
  refine E_xload_n dL_law_235 rfl ⟨_, rfl⟩ ?_
  refine E_iload_n dL_law_236 rfl ?_
  refine E_ic (1) dL_law_237 (by decide) ?_
  refine E_iadd dL_law_238 ?_
  refine E.top (show nI i + 1 = nI (i + 1) from nI_add i 1) ?_
  refine E_sld dL_law_239 (vp_in_nI (by omega) (by omega)) ?_
  refine E.weak (kc := kx + (kc - kx)) (ks := sx + (ks - sx)) (by omega) (by omega) ?_
  refine E_callV (As := [_]) (ci := 10) (d' := 900) (kc' := kx) (ks' := sx) (kc := kc - kx) (ks := ks - sx) dL_law_240 ok_X11_law w_L_23 i_X11_law s_X11_law rfl (by decide) rfl (by omega) rfl rfl rfl (Nat.le_of_ble_eq_true rfl) (Nat.le_of_ble_eq_true rfl) (by decide) (hX _ (fun n' I' J' R' b1 b2 b3 b4 hP => ?_))
  refine E_aload_n dL_law_243 rfl ?_
  refine E_xload_n dL_law_244 rfl ⟨_, rfl⟩ ?_
  refine E_iload_n dL_law_245 rfl ?_
  refine E_ic (1) dL_law_246 (by decide) ?_
  refine E_iadd dL_law_247 ?_
  refine E.top (show nI i + 1 = nI (i + 1) from nI_add i 1) ?_
  refine E_sld dL_law_248 (vp_in_nI (by omega) (by omega)) ?_
  refine E.weak (kc := 0 + (kc - kx)) (ks := 0 + (ks - sx)) (by omega) (by omega) ?_
  refine E_callV (As := [_]) (ci := 11) (d' := 900) (kc' := 0) (ks' := 0) (kc := kc - kx) (ks := ks - sx) dL_law_249 ok_X12_law w_L_27 i_X12_law s_X12_law rfl (by decide) rfl (by omega) rfl rfl rfl (Nat.le_of_ble_eq_true rfl) (Nat.le_of_ble_eq_true rfl) (by decide) (hM _ _ _ _ hP _ (fun I2 J2 R2 hI2 => ?_))
  refine E_icmp_eq (tgt := 954) dL_law_252 (by decide) (fun _ => ?_) (fun c => absurd rfl c)
  exact K _ _ _ _ _ _ hI2 (by omega) (by omega)
set_option maxRecDepth 100000 in
set_option maxHeartbeats 400000 in
theorem lc_3 {INV : IV} (hn : ∀ n I J R, INV n I J R → 152 ≤ n ∧ n ≤ 153) (hp : ∀ a1 a2 : Int32, PairI INV mX11_witness mX12_witness [.int a1, .int a2]) {g : GL} {i n kc ks : Nat} {I : IM} {J : JM} {R : RM} {Q : PQ} (hi : i + 6 ≤ (gX g).2.1) (hL : (gX g).2.1 ≤ 3072) (h : INV n I J R) (hk : 153 - n ≤ kc) (hs : 49500 * (153 - n) ≤ ks) (K : ∀ n' I' J' R' kc' ks', INV n' I' J' R' → 153 - n' ≤ kc' → 49500 * (153 - n') ≤ ks' → E g mL 1000 kc' ks' 954 [.retAddr 0, .ref 0, .ref 114, .int (nI i)] [] n' I' J' R' Q) : E g mL 1000 kc ks 257 [.retAddr 0, .ref 0, .ref 114, .int (nI i)] [] n I J R Q := by
  have hn1 := hn n I J R h
  obtain ⟨r, P, kx, sx, ⟨z, rfl⟩, e1, e2, hX, hM⟩ := hp ((gX g).2.2 (nI (i + 1)).toNatClampNeg) ((gX g).2.2 (nI (i + 2)).toNatClampNeg) g n I J R h
  refine E_aload_n dL_law_257 rfl ?_
  refine E_xload_n dL_law_258 rfl ⟨_, rfl⟩ ?_
  refine E_iload_n dL_law_259 rfl ?_
  refine E_ic (1) dL_law_260 (by decide) ?_
  refine E_iadd dL_law_261 ?_
  refine E.top (show nI i + 1 = nI (i + 1) from nI_add i 1) ?_
  refine E_sld dL_law_262 (vp_in_nI (by omega) (by omega)) ?_
  refine E_xload_n dL_law_263 rfl ⟨_, rfl⟩ ?_
  refine E_iload_n dL_law_264 rfl ?_
  refine E_ic (2) dL_law_265 (by decide) ?_
  refine E_iadd dL_law_266 ?_
  refine E.top (show nI i + 2 = nI (i + 2) from nI_add i 2) ?_
  refine E_sld dL_law_267 (vp_in_nI (by omega) (by omega)) ?_
  refine E.weak (kc := kx + (kc - kx)) (ks := sx + (ks - sx)) (by omega) (by omega) ?_
  refine E_callV (As := [_, _]) (ci := 10) (d' := 900) (kc' := kx) (ks' := sx) (kc := kc - kx) (ks := ks - sx) dL_law_268 ok_X11_witness w_L_28 i_X11_witness s_X11_witness rfl (by decide) rfl (by omega) rfl rfl rfl (Nat.le_of_ble_eq_true rfl) (Nat.le_of_ble_eq_true rfl) (by decide) (hX _ (fun n' I' J' R' b1 b2 b3 b4 hP => ?_))
  refine E_aload_n dL_law_271 rfl ?_
  refine E_xload_n dL_law_272 rfl ⟨_, rfl⟩ ?_
  refine E_iload_n dL_law_273 rfl ?_
  refine E_ic (1) dL_law_274 (by decide) ?_
  refine E_iadd dL_law_275 ?_
  refine E.top (show nI i + 1 = nI (i + 1) from nI_add i 1) ?_
  refine E_sld dL_law_276 (vp_in_nI (by omega) (by omega)) ?_
  refine E_xload_n dL_law_277 rfl ⟨_, rfl⟩ ?_
  refine E_iload_n dL_law_278 rfl ?_
  refine E_ic (2) dL_law_279 (by decide) ?_
  refine E_iadd dL_law_280 ?_
  refine E.top (show nI i + 2 = nI (i + 2) from nI_add i 2) ?_
  refine E_sld dL_law_281 (vp_in_nI (by omega) (by omega)) ?_
  refine E.weak (kc := 0 + (kc - kx)) (ks := 0 + (ks - sx)) (by omega) (by omega) ?_
  refine E_callV (As := [_, _]) (ci := 11) (d' := 900) (kc' := 0) (ks' := 0) (kc := kc - kx) (ks := ks - sx) dL_law_282 ok_X12_witness w_L_32 i_X12_witness s_X12_witness rfl (by decide) rfl (by omega) rfl rfl rfl (Nat.le_of_ble_eq_true rfl) (Nat.le_of_ble_eq_true rfl) (by decide) (hM _ _ _ _ hP _ (fun I2 J2 R2 hI2 => ?_))
  refine E_icmp_eq (tgt := 954) dL_law_285 (by decide) (fun _ => ?_) (fun c => absurd rfl c)
  exact K _ _ _ _ _ _ hI2 (by omega) (by omega)
set_option maxRecDepth 100000 in
set_option maxHeartbeats 400000 in
theorem lc_4 {INV : IV} (hn : ∀ n I J R, INV n I J R → 152 ≤ n ∧ n ≤ 153) (hp : ∀ a1 a2 : Int32, PairI INV mX11_draw mX12_draw [.int a1, .int a2]) {g : GL} {i n kc ks : Nat} {I : IM} {J : JM} {R : RM} {Q : PQ} (hi : i + 6 ≤ (gX g).2.1) (hL : (gX g).2.1 ≤ 3072) (h : INV n I J R) (hk : 153 - n ≤ kc) (hs : 49500 * (153 - n) ≤ ks) (K : ∀ n' I' J' R' kc' ks', INV n' I' J' R' → 153 - n' ≤ kc' → 49500 * (153 - n') ≤ ks' → E g mL 1000 kc' ks' 954 [.retAddr 0, .ref 0, .ref 114, .int (nI i)] [] n' I' J' R' Q) : E g mL 1000 kc ks 290 [.retAddr 0, .ref 0, .ref 114, .int (nI i)] [] n I J R Q := by
  have hn1 := hn n I J R h
  obtain ⟨r, P, kx, sx, ⟨z, rfl⟩, e1, e2, hX, hM⟩ := hp ((gX g).2.2 (nI (i + 1)).toNatClampNeg) ((gX g).2.2 (nI (i + 2)).toNatClampNeg) g n I J R h
  refine E_aload_n dL_law_290 rfl ?_
  refine E_xload_n dL_law_291 rfl ⟨_, rfl⟩ ?_
  refine E_iload_n dL_law_292 rfl ?_
  refine E_ic (1) dL_law_293 (by decide) ?_
  refine E_iadd dL_law_294 ?_
  refine E.top (show nI i + 1 = nI (i + 1) from nI_add i 1) ?_
  refine E_sld dL_law_295 (vp_in_nI (by omega) (by omega)) ?_
  refine E_xload_n dL_law_296 rfl ⟨_, rfl⟩ ?_
  refine E_iload_n dL_law_297 rfl ?_
  refine E_ic (2) dL_law_298 (by decide) ?_
  refine E_iadd dL_law_299 ?_
  refine E.top (show nI i + 2 = nI (i + 2) from nI_add i 2) ?_
  refine E_sld dL_law_300 (vp_in_nI (by omega) (by omega)) ?_
  refine E.weak (kc := kx + (kc - kx)) (ks := sx + (ks - sx)) (by omega) (by omega) ?_
  refine E_callV (As := [_, _]) (ci := 10) (d' := 900) (kc' := kx) (ks' := sx) (kc := kc - kx) (ks := ks - sx) dL_law_301 ok_X11_draw w_L_33 i_X11_draw s_X11_draw rfl (by decide) rfl (by omega) rfl rfl rfl (Nat.le_of_ble_eq_true rfl) (Nat.le_of_ble_eq_true rfl) (by decide) (hX _ (fun n' I' J' R' b1 b2 b3 b4 hP => ?_))
  refine E_aload_n dL_law_304 rfl ?_
  refine E_xload_n dL_law_305 rfl ⟨_, rfl⟩ ?_
  refine E_iload_n dL_law_306 rfl ?_
  refine E_ic (1) dL_law_307 (by decide) ?_
  refine E_iadd dL_law_308 ?_
  refine E.top (show nI i + 1 = nI (i + 1) from nI_add i 1) ?_
  refine E_sld dL_law_309 (vp_in_nI (by omega) (by omega)) ?_
  refine E_xload_n dL_law_310 rfl ⟨_, rfl⟩ ?_
  refine E_iload_n dL_law_311 rfl ?_
  refine E_ic (2) dL_law_312 (by decide) ?_
  refine E_iadd dL_law_313 ?_
  refine E.top (show nI i + 2 = nI (i + 2) from nI_add i 2) ?_
  refine E_sld dL_law_314 (vp_in_nI (by omega) (by omega)) ?_
  refine E.weak (kc := 0 + (kc - kx)) (ks := 0 + (ks - sx)) (by omega) (by omega) ?_
  refine E_callV (As := [_, _]) (ci := 11) (d' := 900) (kc' := 0) (ks' := 0) (kc := kc - kx) (ks := ks - sx) dL_law_315 ok_X12_draw w_L_36 i_X12_draw s_X12_draw rfl (by decide) rfl (by omega) rfl rfl rfl (Nat.le_of_ble_eq_true rfl) (Nat.le_of_ble_eq_true rfl) (by decide) (hM _ _ _ _ hP _ (fun I2 J2 R2 hI2 => ?_))
  refine E_icmp_eq (tgt := 954) dL_law_318 (by decide) (fun _ => ?_) (fun c => absurd rfl c)
  exact K _ _ _ _ _ _ hI2 (by omega) (by omega)
set_option maxRecDepth 100000 in
set_option maxHeartbeats 400000 in
theorem lc_5 {INV : IV} (hn : ∀ n I J R, INV n I J R → 152 ≤ n ∧ n ≤ 153) (hp : ∀ a1 a2 a3 : Int32, PairI INV mX11_tried mX12_tried [.int a1, .int a2, .int a3]) {g : GL} {i n kc ks : Nat} {I : IM} {J : JM} {R : RM} {Q : PQ} (hi : i + 6 ≤ (gX g).2.1) (hL : (gX g).2.1 ≤ 3072) (h : INV n I J R) (hk : 153 - n ≤ kc) (hs : 49500 * (153 - n) ≤ ks) (K : ∀ n' I' J' R' kc' ks', INV n' I' J' R' → 153 - n' ≤ kc' → 49500 * (153 - n') ≤ ks' → E g mL 1000 kc' ks' 954 [.retAddr 0, .ref 0, .ref 114, .int (nI i)] [] n' I' J' R' Q) : E g mL 1000 kc ks 323 [.retAddr 0, .ref 0, .ref 114, .int (nI i)] [] n I J R Q := by
  have hn1 := hn n I J R h
  obtain ⟨r, P, kx, sx, ⟨z, rfl⟩, e1, e2, hX, hM⟩ := hp ((gX g).2.2 (nI (i + 1)).toNatClampNeg) ((gX g).2.2 (nI (i + 2)).toNatClampNeg) ((gX g).2.2 (nI (i + 3)).toNatClampNeg) g n I J R h
  refine E_aload_n dL_law_323 rfl ?_
  refine E_xload_n dL_law_324 rfl ⟨_, rfl⟩ ?_
  refine E_iload_n dL_law_325 rfl ?_
  refine E_ic (1) dL_law_326 (by decide) ?_
  refine E_iadd dL_law_327 ?_
  refine E.top (show nI i + 1 = nI (i + 1) from nI_add i 1) ?_
  refine E_sld dL_law_328 (vp_in_nI (by omega) (by omega)) ?_
  refine E_xload_n dL_law_329 rfl ⟨_, rfl⟩ ?_
  refine E_iload_n dL_law_330 rfl ?_
  refine E_ic (2) dL_law_331 (by decide) ?_
  refine E_iadd dL_law_332 ?_
  refine E.top (show nI i + 2 = nI (i + 2) from nI_add i 2) ?_
  refine E_sld dL_law_333 (vp_in_nI (by omega) (by omega)) ?_
  refine E_xload_n dL_law_334 rfl ⟨_, rfl⟩ ?_
  refine E_iload_n dL_law_335 rfl ?_
  refine E_ic (3) dL_law_336 (by decide) ?_
  refine E_iadd dL_law_337 ?_
  refine E.top (show nI i + 3 = nI (i + 3) from nI_add i 3) ?_
  refine E_sld dL_law_338 (vp_in_nI (by omega) (by omega)) ?_
  refine E.weak (kc := kx + (kc - kx)) (ks := sx + (ks - sx)) (by omega) (by omega) ?_
  refine E_callV (As := [_, _, _]) (ci := 10) (d' := 900) (kc' := kx) (ks' := sx) (kc := kc - kx) (ks := ks - sx) dL_law_339 ok_X11_tried w_L_37 i_X11_tried s_X11_tried rfl (by decide) rfl (by omega) rfl rfl rfl (Nat.le_of_ble_eq_true rfl) (Nat.le_of_ble_eq_true rfl) (by decide) (hX _ (fun n' I' J' R' b1 b2 b3 b4 hP => ?_))
  refine E_aload_n dL_law_342 rfl ?_
  refine E_xload_n dL_law_343 rfl ⟨_, rfl⟩ ?_
  refine E_iload_n dL_law_344 rfl ?_
  refine E_ic (1) dL_law_345 (by decide) ?_
  refine E_iadd dL_law_346 ?_
  refine E.top (show nI i + 1 = nI (i + 1) from nI_add i 1) ?_
  refine E_sld dL_law_347 (vp_in_nI (by omega) (by omega)) ?_
  refine E_xload_n dL_law_348 rfl ⟨_, rfl⟩ ?_
  refine E_iload_n dL_law_349 rfl ?_
  refine E_ic (2) dL_law_350 (by decide) ?_
  refine E_iadd dL_law_351 ?_
  refine E.top (show nI i + 2 = nI (i + 2) from nI_add i 2) ?_
  refine E_sld dL_law_352 (vp_in_nI (by omega) (by omega)) ?_
  refine E_xload_n dL_law_353 rfl ⟨_, rfl⟩ ?_
  refine E_iload_n dL_law_354 rfl ?_
  refine E_ic (3) dL_law_355 (by decide) ?_
  refine E_iadd dL_law_356 ?_
  refine E.top (show nI i + 3 = nI (i + 3) from nI_add i 3) ?_
  refine E_sld dL_law_357 (vp_in_nI (by omega) (by omega)) ?_
  refine E.weak (kc := 0 + (kc - kx)) (ks := 0 + (ks - sx)) (by omega) (by omega) ?_
  refine E_callV (As := [_, _, _]) (ci := 11) (d' := 900) (kc' := 0) (ks' := 0) (kc := kc - kx) (ks := ks - sx) dL_law_358 ok_X12_tried w_L_41 i_X12_tried s_X12_tried rfl (by decide) rfl (by omega) rfl rfl rfl (Nat.le_of_ble_eq_true rfl) (Nat.le_of_ble_eq_true rfl) (by decide) (hM _ _ _ _ hP _ (fun I2 J2 R2 hI2 => ?_))
  refine E_icmp_eq (tgt := 954) dL_law_361 (by decide) (fun _ => ?_) (fun c => absurd rfl c)
  exact K _ _ _ _ _ _ hI2 (by omega) (by omega)
set_option maxRecDepth 100000 in
set_option maxHeartbeats 400000 in
theorem lc_6 {INV : IV} (hn : ∀ n I J R, INV n I J R → 152 ≤ n ∧ n ≤ 153) (hp : ∀ a1 a2 : Int32, PairI INV mX11_witnessIs mX12_witnessIs [.int a1, .int a2]) {g : GL} {i n kc ks : Nat} {I : IM} {J : JM} {R : RM} {Q : PQ} (hi : i + 6 ≤ (gX g).2.1) (hL : (gX g).2.1 ≤ 3072) (h : INV n I J R) (hk : 153 - n ≤ kc) (hs : 49500 * (153 - n) ≤ ks) (K : ∀ n' I' J' R' kc' ks', INV n' I' J' R' → 153 - n' ≤ kc' → 49500 * (153 - n') ≤ ks' → E g mL 1000 kc' ks' 954 [.retAddr 0, .ref 0, .ref 114, .int (nI i)] [] n' I' J' R' Q) : E g mL 1000 kc ks 366 [.retAddr 0, .ref 0, .ref 114, .int (nI i)] [] n I J R Q := by
  have hn1 := hn n I J R h
  obtain ⟨r, P, kx, sx, ⟨z, rfl⟩, e1, e2, hX, hM⟩ := hp ((gX g).2.2 (nI (i + 1)).toNatClampNeg) ((gX g).2.2 (nI (i + 2)).toNatClampNeg) g n I J R h
  refine E_aload_n dL_law_366 rfl ?_
  refine E_xload_n dL_law_367 rfl ⟨_, rfl⟩ ?_
  refine E_iload_n dL_law_368 rfl ?_
  refine E_ic (1) dL_law_369 (by decide) ?_
  refine E_iadd dL_law_370 ?_
  refine E.top (show nI i + 1 = nI (i + 1) from nI_add i 1) ?_
  refine E_sld dL_law_371 (vp_in_nI (by omega) (by omega)) ?_
  refine E_xload_n dL_law_372 rfl ⟨_, rfl⟩ ?_
  refine E_iload_n dL_law_373 rfl ?_
  refine E_ic (2) dL_law_374 (by decide) ?_
  refine E_iadd dL_law_375 ?_
  refine E.top (show nI i + 2 = nI (i + 2) from nI_add i 2) ?_
  refine E_sld dL_law_376 (vp_in_nI (by omega) (by omega)) ?_
  refine E.weak (kc := kx + (kc - kx)) (ks := sx + (ks - sx)) (by omega) (by omega) ?_
  refine E_callV (As := [_, _]) (ci := 10) (d' := 900) (kc' := kx) (ks' := sx) (kc := kc - kx) (ks := ks - sx) dL_law_377 ok_X11_witnessIs w_L_42 i_X11_witnessIs s_X11_witnessIs rfl (by decide) rfl (by omega) rfl rfl rfl (Nat.le_of_ble_eq_true rfl) (Nat.le_of_ble_eq_true rfl) (by decide) (hX _ (fun n' I' J' R' b1 b2 b3 b4 hP => ?_))
  refine E_aload_n dL_law_380 rfl ?_
  refine E_xload_n dL_law_381 rfl ⟨_, rfl⟩ ?_
  refine E_iload_n dL_law_382 rfl ?_
  refine E_ic (1) dL_law_383 (by decide) ?_
  refine E_iadd dL_law_384 ?_
  refine E.top (show nI i + 1 = nI (i + 1) from nI_add i 1) ?_
  refine E_sld dL_law_385 (vp_in_nI (by omega) (by omega)) ?_
  refine E_xload_n dL_law_386 rfl ⟨_, rfl⟩ ?_
  refine E_iload_n dL_law_387 rfl ?_
  refine E_ic (2) dL_law_388 (by decide) ?_
  refine E_iadd dL_law_389 ?_
  refine E.top (show nI i + 2 = nI (i + 2) from nI_add i 2) ?_
  refine E_sld dL_law_390 (vp_in_nI (by omega) (by omega)) ?_
  refine E.weak (kc := 0 + (kc - kx)) (ks := 0 + (ks - sx)) (by omega) (by omega) ?_
  refine E_callV (As := [_, _]) (ci := 11) (d' := 900) (kc' := 0) (ks' := 0) (kc := kc - kx) (ks := ks - sx) dL_law_391 ok_X12_witnessIs w_L_45 i_X12_witnessIs s_X12_witnessIs rfl (by decide) rfl (by omega) rfl rfl rfl (Nat.le_of_ble_eq_true rfl) (Nat.le_of_ble_eq_true rfl) (by decide) (hM _ _ _ _ hP _ (fun I2 J2 R2 hI2 => ?_))
  refine E_icmp_eq (tgt := 954) dL_law_394 (by decide) (fun _ => ?_) (fun c => absurd rfl c)
  exact K _ _ _ _ _ _ hI2 (by omega) (by omega)
set_option maxRecDepth 100000 in
set_option maxHeartbeats 400000 in
theorem lc_7 {INV : IV} (hn : ∀ n I J R, INV n I J R → 152 ≤ n ∧ n ≤ 153) (hp : ∀ a1 a2 a3 : Int32, PairI INV mX11_layerIs mX12_layerIs [.int a1, .int a2, .int a3]) {g : GL} {i n kc ks : Nat} {I : IM} {J : JM} {R : RM} {Q : PQ} (hi : i + 6 ≤ (gX g).2.1) (hL : (gX g).2.1 ≤ 3072) (h : INV n I J R) (hk : 153 - n ≤ kc) (hs : 49500 * (153 - n) ≤ ks) (K : ∀ n' I' J' R' kc' ks', INV n' I' J' R' → 153 - n' ≤ kc' → 49500 * (153 - n') ≤ ks' → E g mL 1000 kc' ks' 954 [.retAddr 0, .ref 0, .ref 114, .int (nI i)] [] n' I' J' R' Q) : E g mL 1000 kc ks 399 [.retAddr 0, .ref 0, .ref 114, .int (nI i)] [] n I J R Q := by
  have hn1 := hn n I J R h
  obtain ⟨r, P, kx, sx, ⟨z, rfl⟩, e1, e2, hX, hM⟩ := hp ((gX g).2.2 (nI (i + 1)).toNatClampNeg) ((gX g).2.2 (nI (i + 2)).toNatClampNeg) ((gX g).2.2 (nI (i + 3)).toNatClampNeg) g n I J R h
  refine E_aload_n dL_law_399 rfl ?_
  refine E_xload_n dL_law_400 rfl ⟨_, rfl⟩ ?_
  refine E_iload_n dL_law_401 rfl ?_
  refine E_ic (1) dL_law_402 (by decide) ?_
  refine E_iadd dL_law_403 ?_
  refine E.top (show nI i + 1 = nI (i + 1) from nI_add i 1) ?_
  refine E_sld dL_law_404 (vp_in_nI (by omega) (by omega)) ?_
  refine E_xload_n dL_law_405 rfl ⟨_, rfl⟩ ?_
  refine E_iload_n dL_law_406 rfl ?_
  refine E_ic (2) dL_law_407 (by decide) ?_
  refine E_iadd dL_law_408 ?_
  refine E.top (show nI i + 2 = nI (i + 2) from nI_add i 2) ?_
  refine E_sld dL_law_409 (vp_in_nI (by omega) (by omega)) ?_
  refine E_xload_n dL_law_410 rfl ⟨_, rfl⟩ ?_
  refine E_iload_n dL_law_411 rfl ?_
  refine E_ic (3) dL_law_412 (by decide) ?_
  refine E_iadd dL_law_413 ?_
  refine E.top (show nI i + 3 = nI (i + 3) from nI_add i 3) ?_
  refine E_sld dL_law_414 (vp_in_nI (by omega) (by omega)) ?_
  refine E.weak (kc := kx + (kc - kx)) (ks := sx + (ks - sx)) (by omega) (by omega) ?_
  refine E_callV (As := [_, _, _]) (ci := 10) (d' := 900) (kc' := kx) (ks' := sx) (kc := kc - kx) (ks := ks - sx) dL_law_415 ok_X11_layerIs w_L_46 i_X11_layerIs s_X11_layerIs rfl (by decide) rfl (by omega) rfl rfl rfl (Nat.le_of_ble_eq_true rfl) (Nat.le_of_ble_eq_true rfl) (by decide) (hX _ (fun n' I' J' R' b1 b2 b3 b4 hP => ?_))
  refine E_aload_n dL_law_418 rfl ?_
  refine E_xload_n dL_law_419 rfl ⟨_, rfl⟩ ?_
  refine E_iload_n dL_law_420 rfl ?_
  refine E_ic (1) dL_law_421 (by decide) ?_
  refine E_iadd dL_law_422 ?_
  refine E.top (show nI i + 1 = nI (i + 1) from nI_add i 1) ?_
  refine E_sld dL_law_423 (vp_in_nI (by omega) (by omega)) ?_
  refine E_xload_n dL_law_424 rfl ⟨_, rfl⟩ ?_
  refine E_iload_n dL_law_425 rfl ?_
  refine E_ic (2) dL_law_426 (by decide) ?_
  refine E_iadd dL_law_427 ?_
  refine E.top (show nI i + 2 = nI (i + 2) from nI_add i 2) ?_
  refine E_sld dL_law_428 (vp_in_nI (by omega) (by omega)) ?_
  refine E_xload_n dL_law_429 rfl ⟨_, rfl⟩ ?_
  refine E_iload_n dL_law_430 rfl ?_
  refine E_ic (3) dL_law_431 (by decide) ?_
  refine E_iadd dL_law_432 ?_
  refine E.top (show nI i + 3 = nI (i + 3) from nI_add i 3) ?_
  refine E_sld dL_law_433 (vp_in_nI (by omega) (by omega)) ?_
  refine E.weak (kc := 0 + (kc - kx)) (ks := 0 + (ks - sx)) (by omega) (by omega) ?_
  refine E_callV (As := [_, _, _]) (ci := 11) (d' := 900) (kc' := 0) (ks' := 0) (kc := kc - kx) (ks := ks - sx) dL_law_434 ok_X12_layerIs w_L_49 i_X12_layerIs s_X12_layerIs rfl (by decide) rfl (by omega) rfl rfl rfl (Nat.le_of_ble_eq_true rfl) (Nat.le_of_ble_eq_true rfl) (by decide) (hM _ _ _ _ hP _ (fun I2 J2 R2 hI2 => ?_))
  refine E_icmp_eq (tgt := 954) dL_law_437 (by decide) (fun _ => ?_) (fun c => absurd rfl c)
  exact K _ _ _ _ _ _ hI2 (by omega) (by omega)
set_option maxRecDepth 100000 in
set_option maxHeartbeats 400000 in
theorem lc_8 {INV : IV} (hn : ∀ n I J R, INV n I J R → 152 ≤ n ∧ n ≤ 153) (hp : ∀ a1 a2 a3 : Int32, PairI INV mX11_plan mX12_plan [.int a1, .int a2, .int a3]) {g : GL} {i n kc ks : Nat} {I : IM} {J : JM} {R : RM} {Q : PQ} (hi : i + 6 ≤ (gX g).2.1) (hL : (gX g).2.1 ≤ 3072) (h : INV n I J R) (hk : 153 - n ≤ kc) (hs : 49500 * (153 - n) ≤ ks) (K : ∀ n' I' J' R' kc' ks', INV n' I' J' R' → 153 - n' ≤ kc' → 49500 * (153 - n') ≤ ks' → E g mL 1000 kc' ks' 954 [.retAddr 0, .ref 0, .ref 114, .int (nI i)] [] n' I' J' R' Q) : E g mL 1000 kc ks 442 [.retAddr 0, .ref 0, .ref 114, .int (nI i)] [] n I J R Q := by
  have hn1 := hn n I J R h
  obtain ⟨r, P, kx, sx, ⟨z, rfl⟩, e1, e2, hX, hM⟩ := hp ((gX g).2.2 (nI (i + 1)).toNatClampNeg) ((gX g).2.2 (nI (i + 2)).toNatClampNeg) ((gX g).2.2 (nI (i + 3)).toNatClampNeg) g n I J R h
  refine E_aload_n dL_law_442 rfl ?_
  refine E_xload_n dL_law_443 rfl ⟨_, rfl⟩ ?_
  refine E_iload_n dL_law_444 rfl ?_
  refine E_ic (1) dL_law_445 (by decide) ?_
  refine E_iadd dL_law_446 ?_
  refine E.top (show nI i + 1 = nI (i + 1) from nI_add i 1) ?_
  refine E_sld dL_law_447 (vp_in_nI (by omega) (by omega)) ?_
  refine E_xload_n dL_law_448 rfl ⟨_, rfl⟩ ?_
  refine E_iload_n dL_law_449 rfl ?_
  refine E_ic (2) dL_law_450 (by decide) ?_
  refine E_iadd dL_law_451 ?_
  refine E.top (show nI i + 2 = nI (i + 2) from nI_add i 2) ?_
  refine E_sld dL_law_452 (vp_in_nI (by omega) (by omega)) ?_
  refine E_xload_n dL_law_453 rfl ⟨_, rfl⟩ ?_
  refine E_iload_n dL_law_454 rfl ?_
  refine E_ic (3) dL_law_455 (by decide) ?_
  refine E_iadd dL_law_456 ?_
  refine E.top (show nI i + 3 = nI (i + 3) from nI_add i 3) ?_
  refine E_sld dL_law_457 (vp_in_nI (by omega) (by omega)) ?_
  refine E.weak (kc := kx + (kc - kx)) (ks := sx + (ks - sx)) (by omega) (by omega) ?_
  refine E_callV (As := [_, _, _]) (ci := 10) (d' := 900) (kc' := kx) (ks' := sx) (kc := kc - kx) (ks := ks - sx) dL_law_458 ok_X11_plan w_L_50 i_X11_plan s_X11_plan rfl (by decide) rfl (by omega) rfl rfl rfl (Nat.le_of_ble_eq_true rfl) (Nat.le_of_ble_eq_true rfl) (by decide) (hX _ (fun n' I' J' R' b1 b2 b3 b4 hP => ?_))
  refine E_aload_n dL_law_461 rfl ?_
  refine E_xload_n dL_law_462 rfl ⟨_, rfl⟩ ?_
  refine E_iload_n dL_law_463 rfl ?_
  refine E_ic (1) dL_law_464 (by decide) ?_
  refine E_iadd dL_law_465 ?_
  refine E.top (show nI i + 1 = nI (i + 1) from nI_add i 1) ?_
  refine E_sld dL_law_466 (vp_in_nI (by omega) (by omega)) ?_
  refine E_xload_n dL_law_467 rfl ⟨_, rfl⟩ ?_
  refine E_iload_n dL_law_468 rfl ?_
  refine E_ic (2) dL_law_469 (by decide) ?_
  refine E_iadd dL_law_470 ?_
  refine E.top (show nI i + 2 = nI (i + 2) from nI_add i 2) ?_
  refine E_sld dL_law_471 (vp_in_nI (by omega) (by omega)) ?_
  refine E_xload_n dL_law_472 rfl ⟨_, rfl⟩ ?_
  refine E_iload_n dL_law_473 rfl ?_
  refine E_ic (3) dL_law_474 (by decide) ?_
  refine E_iadd dL_law_475 ?_
  refine E.top (show nI i + 3 = nI (i + 3) from nI_add i 3) ?_
  refine E_sld dL_law_476 (vp_in_nI (by omega) (by omega)) ?_
  refine E.weak (kc := 0 + (kc - kx)) (ks := 0 + (ks - sx)) (by omega) (by omega) ?_
  refine E_callV (As := [_, _, _]) (ci := 11) (d' := 900) (kc' := 0) (ks' := 0) (kc := kc - kx) (ks := ks - sx) dL_law_477 ok_X12_plan w_L_53 i_X12_plan s_X12_plan rfl (by decide) rfl (by omega) rfl rfl rfl (Nat.le_of_ble_eq_true rfl) (Nat.le_of_ble_eq_true rfl) (by decide) (hM _ _ _ _ hP _ (fun I2 J2 R2 hI2 => ?_))
  refine E_icmp_eq (tgt := 954) dL_law_480 (by decide) (fun _ => ?_) (fun c => absurd rfl c)
  exact K _ _ _ _ _ _ hI2 (by omega) (by omega)
set_option maxRecDepth 100000 in
set_option maxHeartbeats 400000 in
theorem lc_9 {INV : IV} (hn : ∀ n I J R, INV n I J R → 152 ≤ n ∧ n ≤ 153) (hp : ∀ a1 a2 : Int32, PairI INV mX11_heard mX12_heard [.int a1, .int a2]) {g : GL} {i n kc ks : Nat} {I : IM} {J : JM} {R : RM} {Q : PQ} (hi : i + 6 ≤ (gX g).2.1) (hL : (gX g).2.1 ≤ 3072) (h : INV n I J R) (hk : 153 - n ≤ kc) (hs : 49500 * (153 - n) ≤ ks) (K : ∀ n' I' J' R' kc' ks', INV n' I' J' R' → 153 - n' ≤ kc' → 49500 * (153 - n') ≤ ks' → E g mL 1000 kc' ks' 954 [.retAddr 0, .ref 0, .ref 114, .int (nI i)] [] n' I' J' R' Q) : E g mL 1000 kc ks 485 [.retAddr 0, .ref 0, .ref 114, .int (nI i)] [] n I J R Q := by
  have hn1 := hn n I J R h
  obtain ⟨r, P, kx, sx, ⟨z, rfl⟩, e1, e2, hX, hM⟩ := hp ((gX g).2.2 (nI (i + 1)).toNatClampNeg) ((gX g).2.2 (nI (i + 2)).toNatClampNeg) g n I J R h
  refine E_aload_n dL_law_485 rfl ?_
  refine E_xload_n dL_law_486 rfl ⟨_, rfl⟩ ?_
  refine E_iload_n dL_law_487 rfl ?_
  refine E_ic (1) dL_law_488 (by decide) ?_
  refine E_iadd dL_law_489 ?_
  refine E.top (show nI i + 1 = nI (i + 1) from nI_add i 1) ?_
  refine E_sld dL_law_490 (vp_in_nI (by omega) (by omega)) ?_
  refine E_xload_n dL_law_491 rfl ⟨_, rfl⟩ ?_
  refine E_iload_n dL_law_492 rfl ?_
  refine E_ic (2) dL_law_493 (by decide) ?_
  refine E_iadd dL_law_494 ?_
  refine E.top (show nI i + 2 = nI (i + 2) from nI_add i 2) ?_
  refine E_sld dL_law_495 (vp_in_nI (by omega) (by omega)) ?_
  refine E.weak (kc := kx + (kc - kx)) (ks := sx + (ks - sx)) (by omega) (by omega) ?_
  refine E_callV (As := [_, _]) (ci := 10) (d' := 900) (kc' := kx) (ks' := sx) (kc := kc - kx) (ks := ks - sx) dL_law_496 ok_X11_heard w_L_54 i_X11_heard s_X11_heard rfl (by decide) rfl (by omega) rfl rfl rfl (Nat.le_of_ble_eq_true rfl) (Nat.le_of_ble_eq_true rfl) (by decide) (hX _ (fun n' I' J' R' b1 b2 b3 b4 hP => ?_))
  refine E_aload_n dL_law_499 rfl ?_
  refine E_xload_n dL_law_500 rfl ⟨_, rfl⟩ ?_
  refine E_iload_n dL_law_501 rfl ?_
  refine E_ic (1) dL_law_502 (by decide) ?_
  refine E_iadd dL_law_503 ?_
  refine E.top (show nI i + 1 = nI (i + 1) from nI_add i 1) ?_
  refine E_sld dL_law_504 (vp_in_nI (by omega) (by omega)) ?_
  refine E_xload_n dL_law_505 rfl ⟨_, rfl⟩ ?_
  refine E_iload_n dL_law_506 rfl ?_
  refine E_ic (2) dL_law_507 (by decide) ?_
  refine E_iadd dL_law_508 ?_
  refine E.top (show nI i + 2 = nI (i + 2) from nI_add i 2) ?_
  refine E_sld dL_law_509 (vp_in_nI (by omega) (by omega)) ?_
  refine E.weak (kc := 0 + (kc - kx)) (ks := 0 + (ks - sx)) (by omega) (by omega) ?_
  refine E_callV (As := [_, _]) (ci := 11) (d' := 900) (kc' := 0) (ks' := 0) (kc := kc - kx) (ks := ks - sx) dL_law_510 ok_X12_heard w_L_57 i_X12_heard s_X12_heard rfl (by decide) rfl (by omega) rfl rfl rfl (Nat.le_of_ble_eq_true rfl) (Nat.le_of_ble_eq_true rfl) (by decide) (hM _ _ _ _ hP _ (fun I2 J2 R2 hI2 => ?_))
  refine E_icmp_eq (tgt := 954) dL_law_513 (by decide) (fun _ => ?_) (fun c => absurd rfl c)
  exact K _ _ _ _ _ _ hI2 (by omega) (by omega)
set_option maxRecDepth 100000 in
set_option maxHeartbeats 400000 in
theorem lc_10 {INV : IV} (hn : ∀ n I J R, INV n I J R → 152 ≤ n ∧ n ≤ 153) (hp : ∀ a1 a2 : Int32, PairI INV mX11_agree mX12_agree [.int a1, .int a2]) {g : GL} {i n kc ks : Nat} {I : IM} {J : JM} {R : RM} {Q : PQ} (hi : i + 6 ≤ (gX g).2.1) (hL : (gX g).2.1 ≤ 3072) (h : INV n I J R) (hk : 153 - n ≤ kc) (hs : 49500 * (153 - n) ≤ ks) (K : ∀ n' I' J' R' kc' ks', INV n' I' J' R' → 153 - n' ≤ kc' → 49500 * (153 - n') ≤ ks' → E g mL 1000 kc' ks' 954 [.retAddr 0, .ref 0, .ref 114, .int (nI i)] [] n' I' J' R' Q) : E g mL 1000 kc ks 518 [.retAddr 0, .ref 0, .ref 114, .int (nI i)] [] n I J R Q := by
  have hn1 := hn n I J R h
  obtain ⟨r, P, kx, sx, ⟨z, rfl⟩, e1, e2, hX, hM⟩ := hp ((gX g).2.2 (nI (i + 1)).toNatClampNeg) ((gX g).2.2 (nI (i + 2)).toNatClampNeg) g n I J R h
  refine E_aload_n dL_law_518 rfl ?_
  refine E_xload_n dL_law_519 rfl ⟨_, rfl⟩ ?_
  refine E_iload_n dL_law_520 rfl ?_
  refine E_ic (1) dL_law_521 (by decide) ?_
  refine E_iadd dL_law_522 ?_
  refine E.top (show nI i + 1 = nI (i + 1) from nI_add i 1) ?_
  refine E_sld dL_law_523 (vp_in_nI (by omega) (by omega)) ?_
  refine E_xload_n dL_law_524 rfl ⟨_, rfl⟩ ?_
  refine E_iload_n dL_law_525 rfl ?_
  refine E_ic (2) dL_law_526 (by decide) ?_
  refine E_iadd dL_law_527 ?_
  refine E.top (show nI i + 2 = nI (i + 2) from nI_add i 2) ?_
  refine E_sld dL_law_528 (vp_in_nI (by omega) (by omega)) ?_
  refine E.weak (kc := kx + (kc - kx)) (ks := sx + (ks - sx)) (by omega) (by omega) ?_
  refine E_callV (As := [_, _]) (ci := 10) (d' := 900) (kc' := kx) (ks' := sx) (kc := kc - kx) (ks := ks - sx) dL_law_529 ok_X11_agree w_L_58 i_X11_agree s_X11_agree rfl (by decide) rfl (by omega) rfl rfl rfl (Nat.le_of_ble_eq_true rfl) (Nat.le_of_ble_eq_true rfl) (by decide) (hX _ (fun n' I' J' R' b1 b2 b3 b4 hP => ?_))
  refine E_aload_n dL_law_532 rfl ?_
  refine E_xload_n dL_law_533 rfl ⟨_, rfl⟩ ?_
  refine E_iload_n dL_law_534 rfl ?_
  refine E_ic (1) dL_law_535 (by decide) ?_
  refine E_iadd dL_law_536 ?_
  refine E.top (show nI i + 1 = nI (i + 1) from nI_add i 1) ?_
  refine E_sld dL_law_537 (vp_in_nI (by omega) (by omega)) ?_
  refine E_xload_n dL_law_538 rfl ⟨_, rfl⟩ ?_
  refine E_iload_n dL_law_539 rfl ?_
  refine E_ic (2) dL_law_540 (by decide) ?_
  refine E_iadd dL_law_541 ?_
  refine E.top (show nI i + 2 = nI (i + 2) from nI_add i 2) ?_
  refine E_sld dL_law_542 (vp_in_nI (by omega) (by omega)) ?_
  refine E.weak (kc := 0 + (kc - kx)) (ks := 0 + (ks - sx)) (by omega) (by omega) ?_
  refine E_callV (As := [_, _]) (ci := 11) (d' := 900) (kc' := 0) (ks' := 0) (kc := kc - kx) (ks := ks - sx) dL_law_543 ok_X12_agree w_L_61 i_X12_agree s_X12_agree rfl (by decide) rfl (by omega) rfl rfl rfl (Nat.le_of_ble_eq_true rfl) (Nat.le_of_ble_eq_true rfl) (by decide) (hM _ _ _ _ hP _ (fun I2 J2 R2 hI2 => ?_))
  refine E_icmp_eq (tgt := 954) dL_law_546 (by decide) (fun _ => ?_) (fun c => absurd rfl c)
  exact K _ _ _ _ _ _ hI2 (by omega) (by omega)
set_option maxRecDepth 100000 in
set_option maxHeartbeats 400000 in
theorem lc_11 {INV : IV} (hn : ∀ n I J R, INV n I J R → 152 ≤ n ∧ n ≤ 153) (hp : ∀ a1 a2 : Int32, PairI INV mX11_atOdds mX12_atOdds [.int a1, .int a2]) {g : GL} {i n kc ks : Nat} {I : IM} {J : JM} {R : RM} {Q : PQ} (hi : i + 6 ≤ (gX g).2.1) (hL : (gX g).2.1 ≤ 3072) (h : INV n I J R) (hk : 153 - n ≤ kc) (hs : 49500 * (153 - n) ≤ ks) (K : ∀ n' I' J' R' kc' ks', INV n' I' J' R' → 153 - n' ≤ kc' → 49500 * (153 - n') ≤ ks' → E g mL 1000 kc' ks' 954 [.retAddr 0, .ref 0, .ref 114, .int (nI i)] [] n' I' J' R' Q) : E g mL 1000 kc ks 551 [.retAddr 0, .ref 0, .ref 114, .int (nI i)] [] n I J R Q := by
  have hn1 := hn n I J R h
  obtain ⟨r, P, kx, sx, ⟨z, rfl⟩, e1, e2, hX, hM⟩ := hp ((gX g).2.2 (nI (i + 1)).toNatClampNeg) ((gX g).2.2 (nI (i + 2)).toNatClampNeg) g n I J R h
  refine E_aload_n dL_law_551 rfl ?_
  refine E_xload_n dL_law_552 rfl ⟨_, rfl⟩ ?_
  refine E_iload_n dL_law_553 rfl ?_
  refine E_ic (1) dL_law_554 (by decide) ?_
  refine E_iadd dL_law_555 ?_
  refine E.top (show nI i + 1 = nI (i + 1) from nI_add i 1) ?_
  refine E_sld dL_law_556 (vp_in_nI (by omega) (by omega)) ?_
  refine E_xload_n dL_law_557 rfl ⟨_, rfl⟩ ?_
  refine E_iload_n dL_law_558 rfl ?_
  refine E_ic (2) dL_law_559 (by decide) ?_
  refine E_iadd dL_law_560 ?_
  refine E.top (show nI i + 2 = nI (i + 2) from nI_add i 2) ?_
  refine E_sld dL_law_561 (vp_in_nI (by omega) (by omega)) ?_
  refine E.weak (kc := kx + (kc - kx)) (ks := sx + (ks - sx)) (by omega) (by omega) ?_
  refine E_callV (As := [_, _]) (ci := 10) (d' := 900) (kc' := kx) (ks' := sx) (kc := kc - kx) (ks := ks - sx) dL_law_562 ok_X11_atOdds w_L_62 i_X11_atOdds s_X11_atOdds rfl (by decide) rfl (by omega) rfl rfl rfl (Nat.le_of_ble_eq_true rfl) (Nat.le_of_ble_eq_true rfl) (by decide) (hX _ (fun n' I' J' R' b1 b2 b3 b4 hP => ?_))
  refine E_aload_n dL_law_565 rfl ?_
  refine E_xload_n dL_law_566 rfl ⟨_, rfl⟩ ?_
  refine E_iload_n dL_law_567 rfl ?_
  refine E_ic (1) dL_law_568 (by decide) ?_
  refine E_iadd dL_law_569 ?_
  refine E.top (show nI i + 1 = nI (i + 1) from nI_add i 1) ?_
  refine E_sld dL_law_570 (vp_in_nI (by omega) (by omega)) ?_
  refine E_xload_n dL_law_571 rfl ⟨_, rfl⟩ ?_
  refine E_iload_n dL_law_572 rfl ?_
  refine E_ic (2) dL_law_573 (by decide) ?_
  refine E_iadd dL_law_574 ?_
  refine E.top (show nI i + 2 = nI (i + 2) from nI_add i 2) ?_
  refine E_sld dL_law_575 (vp_in_nI (by omega) (by omega)) ?_
  refine E.weak (kc := 0 + (kc - kx)) (ks := 0 + (ks - sx)) (by omega) (by omega) ?_
  refine E_callV (As := [_, _]) (ci := 11) (d' := 900) (kc' := 0) (ks' := 0) (kc := kc - kx) (ks := ks - sx) dL_law_576 ok_X12_atOdds w_L_65 i_X12_atOdds s_X12_atOdds rfl (by decide) rfl (by omega) rfl rfl rfl (Nat.le_of_ble_eq_true rfl) (Nat.le_of_ble_eq_true rfl) (by decide) (hM _ _ _ _ hP _ (fun I2 J2 R2 hI2 => ?_))
  refine E_icmp_eq (tgt := 954) dL_law_579 (by decide) (fun _ => ?_) (fun c => absurd rfl c)
  exact K _ _ _ _ _ _ hI2 (by omega) (by omega)
set_option maxRecDepth 100000 in
set_option maxHeartbeats 400000 in
theorem lc_12 {INV : IV} (hn : ∀ n I J R, INV n I J R → 152 ≤ n ∧ n ≤ 153) (hp : ∀ a1 a2 : Int32, PairI INV mX11_years mX12_years [.int a1, .int a2]) {g : GL} {i n kc ks : Nat} {I : IM} {J : JM} {R : RM} {Q : PQ} (hi : i + 6 ≤ (gX g).2.1) (hL : (gX g).2.1 ≤ 3072) (h : INV n I J R) (hk : 153 - n ≤ kc) (hs : 49500 * (153 - n) ≤ ks) (K : ∀ n' I' J' R' kc' ks', INV n' I' J' R' → 153 - n' ≤ kc' → 49500 * (153 - n') ≤ ks' → E g mL 1000 kc' ks' 954 [.retAddr 0, .ref 0, .ref 114, .int (nI i)] [] n' I' J' R' Q) : E g mL 1000 kc ks 584 [.retAddr 0, .ref 0, .ref 114, .int (nI i)] [] n I J R Q := by
  have hn1 := hn n I J R h
  obtain ⟨r, P, kx, sx, ⟨z, rfl⟩, e1, e2, hX, hM⟩ := hp ((gX g).2.2 (nI (i + 1)).toNatClampNeg) ((gX g).2.2 (nI (i + 2)).toNatClampNeg) g n I J R h
  refine E_aload_n dL_law_584 rfl ?_
  refine E_xload_n dL_law_585 rfl ⟨_, rfl⟩ ?_
  refine E_iload_n dL_law_586 rfl ?_
  refine E_ic (1) dL_law_587 (by decide) ?_
  refine E_iadd dL_law_588 ?_
  refine E.top (show nI i + 1 = nI (i + 1) from nI_add i 1) ?_
  refine E_sld dL_law_589 (vp_in_nI (by omega) (by omega)) ?_
  refine E_xload_n dL_law_590 rfl ⟨_, rfl⟩ ?_
  refine E_iload_n dL_law_591 rfl ?_
  refine E_ic (2) dL_law_592 (by decide) ?_
  refine E_iadd dL_law_593 ?_
  refine E.top (show nI i + 2 = nI (i + 2) from nI_add i 2) ?_
  refine E_sld dL_law_594 (vp_in_nI (by omega) (by omega)) ?_
  refine E.weak (kc := kx + (kc - kx)) (ks := sx + (ks - sx)) (by omega) (by omega) ?_
  refine E_callV (As := [_, _]) (ci := 10) (d' := 900) (kc' := kx) (ks' := sx) (kc := kc - kx) (ks := ks - sx) dL_law_595 ok_X11_years w_L_66 i_X11_years s_X11_years rfl (by decide) rfl (by omega) rfl rfl rfl (Nat.le_of_ble_eq_true rfl) (Nat.le_of_ble_eq_true rfl) (by decide) (hX _ (fun n' I' J' R' b1 b2 b3 b4 hP => ?_))
  refine E_aload_n dL_law_598 rfl ?_
  refine E_xload_n dL_law_599 rfl ⟨_, rfl⟩ ?_
  refine E_iload_n dL_law_600 rfl ?_
  refine E_ic (1) dL_law_601 (by decide) ?_
  refine E_iadd dL_law_602 ?_
  refine E.top (show nI i + 1 = nI (i + 1) from nI_add i 1) ?_
  refine E_sld dL_law_603 (vp_in_nI (by omega) (by omega)) ?_
  refine E_xload_n dL_law_604 rfl ⟨_, rfl⟩ ?_
  refine E_iload_n dL_law_605 rfl ?_
  refine E_ic (2) dL_law_606 (by decide) ?_
  refine E_iadd dL_law_607 ?_
  refine E.top (show nI i + 2 = nI (i + 2) from nI_add i 2) ?_
  refine E_sld dL_law_608 (vp_in_nI (by omega) (by omega)) ?_
  refine E.weak (kc := 0 + (kc - kx)) (ks := 0 + (ks - sx)) (by omega) (by omega) ?_
  refine E_callV (As := [_, _]) (ci := 11) (d' := 900) (kc' := 0) (ks' := 0) (kc := kc - kx) (ks := ks - sx) dL_law_609 ok_X12_years w_L_69 i_X12_years s_X12_years rfl (by decide) rfl (by omega) rfl rfl rfl (Nat.le_of_ble_eq_true rfl) (Nat.le_of_ble_eq_true rfl) (by decide) (hM _ _ _ _ hP _ (fun I2 J2 R2 hI2 => ?_))
  refine E_icmp_eq (tgt := 954) dL_law_612 (by decide) (fun _ => ?_) (fun c => absurd rfl c)
  exact K _ _ _ _ _ _ hI2 (by omega) (by omega)
set_option maxRecDepth 100000 in
set_option maxHeartbeats 400000 in
theorem lc_13 {INV : IV} (hn : ∀ n I J R, INV n I J R → 152 ≤ n ∧ n ≤ 153) (hp : ∀ a1 : Int32, PairI INV mX11_peak mX12_peak [.int a1]) {g : GL} {i n kc ks : Nat} {I : IM} {J : JM} {R : RM} {Q : PQ} (hi : i + 6 ≤ (gX g).2.1) (hL : (gX g).2.1 ≤ 3072) (h : INV n I J R) (hk : 153 - n ≤ kc) (hs : 49500 * (153 - n) ≤ ks) (K : ∀ n' I' J' R' kc' ks', INV n' I' J' R' → 153 - n' ≤ kc' → 49500 * (153 - n') ≤ ks' → E g mL 1000 kc' ks' 954 [.retAddr 0, .ref 0, .ref 114, .int (nI i)] [] n' I' J' R' Q) : E g mL 1000 kc ks 617 [.retAddr 0, .ref 0, .ref 114, .int (nI i)] [] n I J R Q := by
  have hn1 := hn n I J R h
  obtain ⟨r, P, kx, sx, ⟨z, rfl⟩, e1, e2, hX, hM⟩ := hp ((gX g).2.2 (nI (i + 1)).toNatClampNeg) g n I J R h
  refine E_aload_n dL_law_617 rfl ?_
  refine E_xload_n dL_law_618 rfl ⟨_, rfl⟩ ?_
  refine E_iload_n dL_law_619 rfl ?_
  refine E_ic (1) dL_law_620 (by decide) ?_
  refine E_iadd dL_law_621 ?_
  refine E.top (show nI i + 1 = nI (i + 1) from nI_add i 1) ?_
  refine E_sld dL_law_622 (vp_in_nI (by omega) (by omega)) ?_
  refine E.weak (kc := kx + (kc - kx)) (ks := sx + (ks - sx)) (by omega) (by omega) ?_
  refine E_callV (As := [_]) (ci := 10) (d' := 900) (kc' := kx) (ks' := sx) (kc := kc - kx) (ks := ks - sx) dL_law_623 ok_X11_peak w_L_70 i_X11_peak s_X11_peak rfl (by decide) rfl (by omega) rfl rfl rfl (Nat.le_of_ble_eq_true rfl) (Nat.le_of_ble_eq_true rfl) (by decide) (hX _ (fun n' I' J' R' b1 b2 b3 b4 hP => ?_))
  refine E_aload_n dL_law_626 rfl ?_
  refine E_xload_n dL_law_627 rfl ⟨_, rfl⟩ ?_
  refine E_iload_n dL_law_628 rfl ?_
  refine E_ic (1) dL_law_629 (by decide) ?_
  refine E_iadd dL_law_630 ?_
  refine E.top (show nI i + 1 = nI (i + 1) from nI_add i 1) ?_
  refine E_sld dL_law_631 (vp_in_nI (by omega) (by omega)) ?_
  refine E.weak (kc := 0 + (kc - kx)) (ks := 0 + (ks - sx)) (by omega) (by omega) ?_
  refine E_callV (As := [_]) (ci := 11) (d' := 900) (kc' := 0) (ks' := 0) (kc := kc - kx) (ks := ks - sx) dL_law_632 ok_X12_peak w_L_73 i_X12_peak s_X12_peak rfl (by decide) rfl (by omega) rfl rfl rfl (Nat.le_of_ble_eq_true rfl) (Nat.le_of_ble_eq_true rfl) (by decide) (hM _ _ _ _ hP _ (fun I2 J2 R2 hI2 => ?_))
  refine E_icmp_eq (tgt := 954) dL_law_635 (by decide) (fun _ => ?_) (fun c => absurd rfl c)
  exact K _ _ _ _ _ _ hI2 (by omega) (by omega)
set_option maxRecDepth 100000 in
set_option maxHeartbeats 400000 in
theorem lc_14 {INV : IV} (hn : ∀ n I J R, INV n I J R → 152 ≤ n ∧ n ≤ 153) (hp : ∀ a1 : Int32, PairI INV mX11_who mX12_who [.int a1]) {g : GL} {i n kc ks : Nat} {I : IM} {J : JM} {R : RM} {Q : PQ} (hi : i + 6 ≤ (gX g).2.1) (hL : (gX g).2.1 ≤ 3072) (h : INV n I J R) (hk : 153 - n ≤ kc) (hs : 49500 * (153 - n) ≤ ks) (K : ∀ n' I' J' R' kc' ks', INV n' I' J' R' → 153 - n' ≤ kc' → 49500 * (153 - n') ≤ ks' → E g mL 1000 kc' ks' 954 [.retAddr 0, .ref 0, .ref 114, .int (nI i)] [] n' I' J' R' Q) : E g mL 1000 kc ks 640 [.retAddr 0, .ref 0, .ref 114, .int (nI i)] [] n I J R Q := by
  have hn1 := hn n I J R h
  obtain ⟨r, P, kx, sx, ⟨z, rfl⟩, e1, e2, hX, hM⟩ := hp ((gX g).2.2 (nI (i + 1)).toNatClampNeg) g n I J R h
  refine E_aload_n dL_law_640 rfl ?_
  refine E_xload_n dL_law_641 rfl ⟨_, rfl⟩ ?_
  refine E_iload_n dL_law_642 rfl ?_
  refine E_ic (1) dL_law_643 (by decide) ?_
  refine E_iadd dL_law_644 ?_
  refine E.top (show nI i + 1 = nI (i + 1) from nI_add i 1) ?_
  refine E_sld dL_law_645 (vp_in_nI (by omega) (by omega)) ?_
  refine E.weak (kc := kx + (kc - kx)) (ks := sx + (ks - sx)) (by omega) (by omega) ?_
  refine E_callV (As := [_]) (ci := 10) (d' := 900) (kc' := kx) (ks' := sx) (kc := kc - kx) (ks := ks - sx) dL_law_646 ok_X11_who w_L_74 i_X11_who s_X11_who rfl (by decide) rfl (by omega) rfl rfl rfl (Nat.le_of_ble_eq_true rfl) (Nat.le_of_ble_eq_true rfl) (by decide) (hX _ (fun n' I' J' R' b1 b2 b3 b4 hP => ?_))
  refine E_aload_n dL_law_649 rfl ?_
  refine E_xload_n dL_law_650 rfl ⟨_, rfl⟩ ?_
  refine E_iload_n dL_law_651 rfl ?_
  refine E_ic (1) dL_law_652 (by decide) ?_
  refine E_iadd dL_law_653 ?_
  refine E.top (show nI i + 1 = nI (i + 1) from nI_add i 1) ?_
  refine E_sld dL_law_654 (vp_in_nI (by omega) (by omega)) ?_
  refine E.weak (kc := 0 + (kc - kx)) (ks := 0 + (ks - sx)) (by omega) (by omega) ?_
  refine E_callV (As := [_]) (ci := 11) (d' := 900) (kc' := 0) (ks' := 0) (kc := kc - kx) (ks := ks - sx) dL_law_655 ok_X12_who w_L_77 i_X12_who s_X12_who rfl (by decide) rfl (by omega) rfl rfl rfl (Nat.le_of_ble_eq_true rfl) (Nat.le_of_ble_eq_true rfl) (by decide) (hM _ _ _ _ hP _ (fun I2 J2 R2 hI2 => ?_))
  refine E_icmp_eq (tgt := 954) dL_law_658 (by decide) (fun _ => ?_) (fun c => absurd rfl c)
  exact K _ _ _ _ _ _ hI2 (by omega) (by omega)
set_option maxRecDepth 100000 in
set_option maxHeartbeats 400000 in
theorem lc_15 {INV : IV} (hn : ∀ n I J R, INV n I J R → 152 ≤ n ∧ n ≤ 153) (hp : ∀ a1 a2 : Int32, PairL INV mX11_jury mX12_jury [.int a1, .int a2]) {g : GL} {i n kc ks : Nat} {I : IM} {J : JM} {R : RM} {Q : PQ} (hi : i + 6 ≤ (gX g).2.1) (hL : (gX g).2.1 ≤ 3072) (h : INV n I J R) (hk : 153 - n ≤ kc) (hs : 49500 * (153 - n) ≤ ks) (K : ∀ n' I' J' R' kc' ks', INV n' I' J' R' → 153 - n' ≤ kc' → 49500 * (153 - n') ≤ ks' → E g mL 1000 kc' ks' 954 [.retAddr 0, .ref 0, .ref 114, .int (nI i)] [] n' I' J' R' Q) : E g mL 1000 kc ks 663 [.retAddr 0, .ref 0, .ref 114, .int (nI i)] [] n I J R Q := by
  have hn1 := hn n I J R h
  obtain ⟨r, P, kx, sx, ⟨z, rfl⟩, e1, e2, hX, hM⟩ := hp ((gX g).2.2 (nI (i + 1)).toNatClampNeg) ((gX g).2.2 (nI (i + 2)).toNatClampNeg) g n I J R h
  refine E_aload_n dL_law_663 rfl ?_
  refine E_xload_n dL_law_664 rfl ⟨_, rfl⟩ ?_
  refine E_iload_n dL_law_665 rfl ?_
  refine E_ic (1) dL_law_666 (by decide) ?_
  refine E_iadd dL_law_667 ?_
  refine E.top (show nI i + 1 = nI (i + 1) from nI_add i 1) ?_
  refine E_sld dL_law_668 (vp_in_nI (by omega) (by omega)) ?_
  refine E_xload_n dL_law_669 rfl ⟨_, rfl⟩ ?_
  refine E_iload_n dL_law_670 rfl ?_
  refine E_ic (2) dL_law_671 (by decide) ?_
  refine E_iadd dL_law_672 ?_
  refine E.top (show nI i + 2 = nI (i + 2) from nI_add i 2) ?_
  refine E_sld dL_law_673 (vp_in_nI (by omega) (by omega)) ?_
  refine E.weak (kc := kx + (kc - kx)) (ks := sx + (ks - sx)) (by omega) (by omega) ?_
  refine E_callV (As := [_, _]) (ci := 10) (d' := 900) (kc' := kx) (ks' := sx) (kc := kc - kx) (ks := ks - sx) dL_law_674 ok_X11_jury w_L_78 i_X11_jury s_X11_jury rfl (by decide) rfl (by omega) rfl rfl rfl (Nat.le_of_ble_eq_true rfl) (Nat.le_of_ble_eq_true rfl) (by decide) (hX _ (fun n' I' J' R' b1 b2 b3 b4 hP => ?_))
  refine E_aload_n dL_law_677 rfl ?_
  refine E_xload_n dL_law_678 rfl ⟨_, rfl⟩ ?_
  refine E_iload_n dL_law_679 rfl ?_
  refine E_ic (1) dL_law_680 (by decide) ?_
  refine E_iadd dL_law_681 ?_
  refine E.top (show nI i + 1 = nI (i + 1) from nI_add i 1) ?_
  refine E_sld dL_law_682 (vp_in_nI (by omega) (by omega)) ?_
  refine E_xload_n dL_law_683 rfl ⟨_, rfl⟩ ?_
  refine E_iload_n dL_law_684 rfl ?_
  refine E_ic (2) dL_law_685 (by decide) ?_
  refine E_iadd dL_law_686 ?_
  refine E.top (show nI i + 2 = nI (i + 2) from nI_add i 2) ?_
  refine E_sld dL_law_687 (vp_in_nI (by omega) (by omega)) ?_
  refine E.weak (kc := 0 + (kc - kx)) (ks := 0 + (ks - sx)) (by omega) (by omega) ?_
  refine E_callV (As := [_, _]) (ci := 11) (d' := 900) (kc' := 0) (ks' := 0) (kc := kc - kx) (ks := ks - sx) dL_law_688 ok_X12_jury w_L_82 i_X12_jury s_X12_jury rfl (by decide) rfl (by omega) rfl rfl rfl (Nat.le_of_ble_eq_true rfl) (Nat.le_of_ble_eq_true rfl) (by decide) (hM _ _ _ _ hP _ (fun I2 J2 R2 hI2 => ?_))
  refine E_lcmp dL_law_691 ?_
  refine E.top (lg_self _) ?_
  refine E_if_eq (tgt := 954) dL_law_692 (by decide) (fun _ => ?_) (fun c => absurd rfl c)
  exact K _ _ _ _ _ _ hI2 (by omega) (by omega)
set_option maxRecDepth 100000 in
set_option maxHeartbeats 400000 in
theorem lc_16 {INV : IV} (hn : ∀ n I J R, INV n I J R → 152 ≤ n ∧ n ≤ 153) (hp : ∀ a1 a2 a3 : Int32, PairI INV mX11_tasters mX12_tasters [.int a1, .int a2, .int a3]) {g : GL} {i n kc ks : Nat} {I : IM} {J : JM} {R : RM} {Q : PQ} (hi : i + 6 ≤ (gX g).2.1) (hL : (gX g).2.1 ≤ 3072) (h : INV n I J R) (hk : 153 - n ≤ kc) (hs : 49500 * (153 - n) ≤ ks) (K : ∀ n' I' J' R' kc' ks', INV n' I' J' R' → 153 - n' ≤ kc' → 49500 * (153 - n') ≤ ks' → E g mL 1000 kc' ks' 954 [.retAddr 0, .ref 0, .ref 114, .int (nI i)] [] n' I' J' R' Q) : E g mL 1000 kc ks 697 [.retAddr 0, .ref 0, .ref 114, .int (nI i)] [] n I J R Q := by
  have hn1 := hn n I J R h
  obtain ⟨r, P, kx, sx, ⟨z, rfl⟩, e1, e2, hX, hM⟩ := hp ((gX g).2.2 (nI (i + 1)).toNatClampNeg) ((gX g).2.2 (nI (i + 2)).toNatClampNeg) ((gX g).2.2 (nI (i + 3)).toNatClampNeg) g n I J R h
  refine E_aload_n dL_law_697 rfl ?_
  refine E_xload_n dL_law_698 rfl ⟨_, rfl⟩ ?_
  refine E_iload_n dL_law_699 rfl ?_
  refine E_ic (1) dL_law_700 (by decide) ?_
  refine E_iadd dL_law_701 ?_
  refine E.top (show nI i + 1 = nI (i + 1) from nI_add i 1) ?_
  refine E_sld dL_law_702 (vp_in_nI (by omega) (by omega)) ?_
  refine E_xload_n dL_law_703 rfl ⟨_, rfl⟩ ?_
  refine E_iload_n dL_law_704 rfl ?_
  refine E_ic (2) dL_law_705 (by decide) ?_
  refine E_iadd dL_law_706 ?_
  refine E.top (show nI i + 2 = nI (i + 2) from nI_add i 2) ?_
  refine E_sld dL_law_707 (vp_in_nI (by omega) (by omega)) ?_
  refine E_xload_n dL_law_708 rfl ⟨_, rfl⟩ ?_
  refine E_iload_n dL_law_709 rfl ?_
  refine E_ic (3) dL_law_710 (by decide) ?_
  refine E_iadd dL_law_711 ?_
  refine E.top (show nI i + 3 = nI (i + 3) from nI_add i 3) ?_
  refine E_sld dL_law_712 (vp_in_nI (by omega) (by omega)) ?_
  refine E.weak (kc := kx + (kc - kx)) (ks := sx + (ks - sx)) (by omega) (by omega) ?_
  refine E_callV (As := [_, _, _]) (ci := 10) (d' := 900) (kc' := kx) (ks' := sx) (kc := kc - kx) (ks := ks - sx) dL_law_713 ok_X11_tasters w_L_83 i_X11_tasters s_X11_tasters rfl (by decide) rfl (by omega) rfl rfl rfl (Nat.le_of_ble_eq_true rfl) (Nat.le_of_ble_eq_true rfl) (by decide) (hX _ (fun n' I' J' R' b1 b2 b3 b4 hP => ?_))
  refine E_aload_n dL_law_716 rfl ?_
  refine E_xload_n dL_law_717 rfl ⟨_, rfl⟩ ?_
  refine E_iload_n dL_law_718 rfl ?_
  refine E_ic (1) dL_law_719 (by decide) ?_
  refine E_iadd dL_law_720 ?_
  refine E.top (show nI i + 1 = nI (i + 1) from nI_add i 1) ?_
  refine E_sld dL_law_721 (vp_in_nI (by omega) (by omega)) ?_
  refine E_xload_n dL_law_722 rfl ⟨_, rfl⟩ ?_
  refine E_iload_n dL_law_723 rfl ?_
  refine E_ic (2) dL_law_724 (by decide) ?_
  refine E_iadd dL_law_725 ?_
  refine E.top (show nI i + 2 = nI (i + 2) from nI_add i 2) ?_
  refine E_sld dL_law_726 (vp_in_nI (by omega) (by omega)) ?_
  refine E_xload_n dL_law_727 rfl ⟨_, rfl⟩ ?_
  refine E_iload_n dL_law_728 rfl ?_
  refine E_ic (3) dL_law_729 (by decide) ?_
  refine E_iadd dL_law_730 ?_
  refine E.top (show nI i + 3 = nI (i + 3) from nI_add i 3) ?_
  refine E_sld dL_law_731 (vp_in_nI (by omega) (by omega)) ?_
  refine E.weak (kc := 0 + (kc - kx)) (ks := 0 + (ks - sx)) (by omega) (by omega) ?_
  refine E_callV (As := [_, _, _]) (ci := 11) (d' := 900) (kc' := 0) (ks' := 0) (kc := kc - kx) (ks := ks - sx) dL_law_732 ok_X12_tasters w_L_86 i_X12_tasters s_X12_tasters rfl (by decide) rfl (by omega) rfl rfl rfl (Nat.le_of_ble_eq_true rfl) (Nat.le_of_ble_eq_true rfl) (by decide) (hM _ _ _ _ hP _ (fun I2 J2 R2 hI2 => ?_))
  refine E_icmp_eq (tgt := 954) dL_law_735 (by decide) (fun _ => ?_) (fun c => absurd rfl c)
  exact K _ _ _ _ _ _ hI2 (by omega) (by omega)
set_option maxRecDepth 100000 in
set_option maxHeartbeats 400000 in
theorem lc_17 {INV : IV} (hn : ∀ n I J R, INV n I J R → 152 ≤ n ∧ n ≤ 153) (hp : ∀ a1 a2 : Int32, PairI INV mX11_jugs mX12_jugs [.int a1, .int a2]) {g : GL} {i n kc ks : Nat} {I : IM} {J : JM} {R : RM} {Q : PQ} (hi : i + 6 ≤ (gX g).2.1) (hL : (gX g).2.1 ≤ 3072) (h : INV n I J R) (hk : 153 - n ≤ kc) (hs : 49500 * (153 - n) ≤ ks) (K : ∀ n' I' J' R' kc' ks', INV n' I' J' R' → 153 - n' ≤ kc' → 49500 * (153 - n') ≤ ks' → E g mL 1000 kc' ks' 954 [.retAddr 0, .ref 0, .ref 114, .int (nI i)] [] n' I' J' R' Q) : E g mL 1000 kc ks 740 [.retAddr 0, .ref 0, .ref 114, .int (nI i)] [] n I J R Q := by
  have hn1 := hn n I J R h
  obtain ⟨r, P, kx, sx, ⟨z, rfl⟩, e1, e2, hX, hM⟩ := hp ((gX g).2.2 (nI (i + 1)).toNatClampNeg) ((gX g).2.2 (nI (i + 2)).toNatClampNeg) g n I J R h
  refine E_aload_n dL_law_740 rfl ?_
  refine E_xload_n dL_law_741 rfl ⟨_, rfl⟩ ?_
  refine E_iload_n dL_law_742 rfl ?_
  refine E_ic (1) dL_law_743 (by decide) ?_
  refine E_iadd dL_law_744 ?_
  refine E.top (show nI i + 1 = nI (i + 1) from nI_add i 1) ?_
  refine E_sld dL_law_745 (vp_in_nI (by omega) (by omega)) ?_
  refine E_xload_n dL_law_746 rfl ⟨_, rfl⟩ ?_
  refine E_iload_n dL_law_747 rfl ?_
  refine E_ic (2) dL_law_748 (by decide) ?_
  refine E_iadd dL_law_749 ?_
  refine E.top (show nI i + 2 = nI (i + 2) from nI_add i 2) ?_
  refine E_sld dL_law_750 (vp_in_nI (by omega) (by omega)) ?_
  refine E.weak (kc := kx + (kc - kx)) (ks := sx + (ks - sx)) (by omega) (by omega) ?_
  refine E_callV (As := [_, _]) (ci := 10) (d' := 900) (kc' := kx) (ks' := sx) (kc := kc - kx) (ks := ks - sx) dL_law_751 ok_X11_jugs w_L_87 i_X11_jugs s_X11_jugs rfl (by decide) rfl (by omega) rfl rfl rfl (Nat.le_of_ble_eq_true rfl) (Nat.le_of_ble_eq_true rfl) (by decide) (hX _ (fun n' I' J' R' b1 b2 b3 b4 hP => ?_))
  refine E_aload_n dL_law_754 rfl ?_
  refine E_xload_n dL_law_755 rfl ⟨_, rfl⟩ ?_
  refine E_iload_n dL_law_756 rfl ?_
  refine E_ic (1) dL_law_757 (by decide) ?_
  refine E_iadd dL_law_758 ?_
  refine E.top (show nI i + 1 = nI (i + 1) from nI_add i 1) ?_
  refine E_sld dL_law_759 (vp_in_nI (by omega) (by omega)) ?_
  refine E_xload_n dL_law_760 rfl ⟨_, rfl⟩ ?_
  refine E_iload_n dL_law_761 rfl ?_
  refine E_ic (2) dL_law_762 (by decide) ?_
  refine E_iadd dL_law_763 ?_
  refine E.top (show nI i + 2 = nI (i + 2) from nI_add i 2) ?_
  refine E_sld dL_law_764 (vp_in_nI (by omega) (by omega)) ?_
  refine E.weak (kc := 0 + (kc - kx)) (ks := 0 + (ks - sx)) (by omega) (by omega) ?_
  refine E_callV (As := [_, _]) (ci := 11) (d' := 900) (kc' := 0) (ks' := 0) (kc := kc - kx) (ks := ks - sx) dL_law_765 ok_X12_jugs w_L_90 i_X12_jugs s_X12_jugs rfl (by decide) rfl (by omega) rfl rfl rfl (Nat.le_of_ble_eq_true rfl) (Nat.le_of_ble_eq_true rfl) (by decide) (hM _ _ _ _ hP _ (fun I2 J2 R2 hI2 => ?_))
  refine E_icmp_eq (tgt := 954) dL_law_768 (by decide) (fun _ => ?_) (fun c => absurd rfl c)
  exact K _ _ _ _ _ _ hI2 (by omega) (by omega)
set_option maxRecDepth 100000 in
set_option maxHeartbeats 400000 in
theorem lc_18 {INV : IV} (hn : ∀ n I J R, INV n I J R → 152 ≤ n ∧ n ≤ 153) (hp : ∀ a1 a2 a3 : Int32, PairI INV mX11_cellar mX12_cellar [.int a1, .int a2, .int a3]) {g : GL} {i n kc ks : Nat} {I : IM} {J : JM} {R : RM} {Q : PQ} (hi : i + 6 ≤ (gX g).2.1) (hL : (gX g).2.1 ≤ 3072) (h : INV n I J R) (hk : 153 - n ≤ kc) (hs : 49500 * (153 - n) ≤ ks) (K : ∀ n' I' J' R' kc' ks', INV n' I' J' R' → 153 - n' ≤ kc' → 49500 * (153 - n') ≤ ks' → E g mL 1000 kc' ks' 954 [.retAddr 0, .ref 0, .ref 114, .int (nI i)] [] n' I' J' R' Q) : E g mL 1000 kc ks 773 [.retAddr 0, .ref 0, .ref 114, .int (nI i)] [] n I J R Q := by
  have hn1 := hn n I J R h
  obtain ⟨r, P, kx, sx, ⟨z, rfl⟩, e1, e2, hX, hM⟩ := hp ((gX g).2.2 (nI (i + 1)).toNatClampNeg) ((gX g).2.2 (nI (i + 2)).toNatClampNeg) ((gX g).2.2 (nI (i + 3)).toNatClampNeg) g n I J R h
  refine E_aload_n dL_law_773 rfl ?_
  refine E_xload_n dL_law_774 rfl ⟨_, rfl⟩ ?_
  refine E_iload_n dL_law_775 rfl ?_
  refine E_ic (1) dL_law_776 (by decide) ?_
  refine E_iadd dL_law_777 ?_
  refine E.top (show nI i + 1 = nI (i + 1) from nI_add i 1) ?_
  refine E_sld dL_law_778 (vp_in_nI (by omega) (by omega)) ?_
  refine E_xload_n dL_law_779 rfl ⟨_, rfl⟩ ?_
  refine E_iload_n dL_law_780 rfl ?_
  refine E_ic (2) dL_law_781 (by decide) ?_
  refine E_iadd dL_law_782 ?_
  refine E.top (show nI i + 2 = nI (i + 2) from nI_add i 2) ?_
  refine E_sld dL_law_783 (vp_in_nI (by omega) (by omega)) ?_
  refine E_xload_n dL_law_784 rfl ⟨_, rfl⟩ ?_
  refine E_iload_n dL_law_785 rfl ?_
  refine E_ic (3) dL_law_786 (by decide) ?_
  refine E_iadd dL_law_787 ?_
  refine E.top (show nI i + 3 = nI (i + 3) from nI_add i 3) ?_
  refine E_sld dL_law_788 (vp_in_nI (by omega) (by omega)) ?_
  refine E.weak (kc := kx + (kc - kx)) (ks := sx + (ks - sx)) (by omega) (by omega) ?_
  refine E_callV (As := [_, _, _]) (ci := 10) (d' := 900) (kc' := kx) (ks' := sx) (kc := kc - kx) (ks := ks - sx) dL_law_789 ok_X11_cellar w_L_91 i_X11_cellar s_X11_cellar rfl (by decide) rfl (by omega) rfl rfl rfl (Nat.le_of_ble_eq_true rfl) (Nat.le_of_ble_eq_true rfl) (by decide) (hX _ (fun n' I' J' R' b1 b2 b3 b4 hP => ?_))
  refine E_aload_n dL_law_792 rfl ?_
  refine E_xload_n dL_law_793 rfl ⟨_, rfl⟩ ?_
  refine E_iload_n dL_law_794 rfl ?_
  refine E_ic (1) dL_law_795 (by decide) ?_
  refine E_iadd dL_law_796 ?_
  refine E.top (show nI i + 1 = nI (i + 1) from nI_add i 1) ?_
  refine E_sld dL_law_797 (vp_in_nI (by omega) (by omega)) ?_
  refine E_xload_n dL_law_798 rfl ⟨_, rfl⟩ ?_
  refine E_iload_n dL_law_799 rfl ?_
  refine E_ic (2) dL_law_800 (by decide) ?_
  refine E_iadd dL_law_801 ?_
  refine E.top (show nI i + 2 = nI (i + 2) from nI_add i 2) ?_
  refine E_sld dL_law_802 (vp_in_nI (by omega) (by omega)) ?_
  refine E_xload_n dL_law_803 rfl ⟨_, rfl⟩ ?_
  refine E_iload_n dL_law_804 rfl ?_
  refine E_ic (3) dL_law_805 (by decide) ?_
  refine E_iadd dL_law_806 ?_
  refine E.top (show nI i + 3 = nI (i + 3) from nI_add i 3) ?_
  refine E_sld dL_law_807 (vp_in_nI (by omega) (by omega)) ?_
  refine E.weak (kc := 0 + (kc - kx)) (ks := 0 + (ks - sx)) (by omega) (by omega) ?_
  refine E_callV (As := [_, _, _]) (ci := 11) (d' := 900) (kc' := 0) (ks' := 0) (kc := kc - kx) (ks := ks - sx) dL_law_808 ok_X12_cellar w_L_94 i_X12_cellar s_X12_cellar rfl (by decide) rfl (by omega) rfl rfl rfl (Nat.le_of_ble_eq_true rfl) (Nat.le_of_ble_eq_true rfl) (by decide) (hM _ _ _ _ hP _ (fun I2 J2 R2 hI2 => ?_))
  refine E_icmp_eq (tgt := 954) dL_law_811 (by decide) (fun _ => ?_) (fun c => absurd rfl c)
  exact K _ _ _ _ _ _ hI2 (by omega) (by omega)
set_option maxRecDepth 100000 in
set_option maxHeartbeats 400000 in
theorem lc_19 {INV : IV} (hn : ∀ n I J R, INV n I J R → 152 ≤ n ∧ n ≤ 153) (hp : ∀ a1 a2 a3 : Int32, PairI INV mX11_wear mX12_wear [.int a1, .int a2, .int a3]) {g : GL} {i n kc ks : Nat} {I : IM} {J : JM} {R : RM} {Q : PQ} (hi : i + 6 ≤ (gX g).2.1) (hL : (gX g).2.1 ≤ 3072) (h : INV n I J R) (hk : 153 - n ≤ kc) (hs : 49500 * (153 - n) ≤ ks) (K : ∀ n' I' J' R' kc' ks', INV n' I' J' R' → 153 - n' ≤ kc' → 49500 * (153 - n') ≤ ks' → E g mL 1000 kc' ks' 954 [.retAddr 0, .ref 0, .ref 114, .int (nI i)] [] n' I' J' R' Q) : E g mL 1000 kc ks 816 [.retAddr 0, .ref 0, .ref 114, .int (nI i)] [] n I J R Q := by
  have hn1 := hn n I J R h
  obtain ⟨r, P, kx, sx, ⟨z, rfl⟩, e1, e2, hX, hM⟩ := hp ((gX g).2.2 (nI (i + 1)).toNatClampNeg) ((gX g).2.2 (nI (i + 2)).toNatClampNeg) ((gX g).2.2 (nI (i + 3)).toNatClampNeg) g n I J R h
  refine E_aload_n dL_law_816 rfl ?_
  refine E_xload_n dL_law_817 rfl ⟨_, rfl⟩ ?_
  refine E_iload_n dL_law_818 rfl ?_
  refine E_ic (1) dL_law_819 (by decide) ?_
  refine E_iadd dL_law_820 ?_
  refine E.top (show nI i + 1 = nI (i + 1) from nI_add i 1) ?_
  refine E_sld dL_law_821 (vp_in_nI (by omega) (by omega)) ?_
  refine E_xload_n dL_law_822 rfl ⟨_, rfl⟩ ?_
  refine E_iload_n dL_law_823 rfl ?_
  refine E_ic (2) dL_law_824 (by decide) ?_
  refine E_iadd dL_law_825 ?_
  refine E.top (show nI i + 2 = nI (i + 2) from nI_add i 2) ?_
  refine E_sld dL_law_826 (vp_in_nI (by omega) (by omega)) ?_
  refine E_xload_n dL_law_827 rfl ⟨_, rfl⟩ ?_
  refine E_iload_n dL_law_828 rfl ?_
  refine E_ic (3) dL_law_829 (by decide) ?_
  refine E_iadd dL_law_830 ?_
  refine E.top (show nI i + 3 = nI (i + 3) from nI_add i 3) ?_
  refine E_sld dL_law_831 (vp_in_nI (by omega) (by omega)) ?_
  refine E.weak (kc := kx + (kc - kx)) (ks := sx + (ks - sx)) (by omega) (by omega) ?_
  refine E_callV (As := [_, _, _]) (ci := 10) (d' := 900) (kc' := kx) (ks' := sx) (kc := kc - kx) (ks := ks - sx) dL_law_832 ok_X11_wear w_L_95 i_X11_wear s_X11_wear rfl (by decide) rfl (by omega) rfl rfl rfl (Nat.le_of_ble_eq_true rfl) (Nat.le_of_ble_eq_true rfl) (by decide) (hX _ (fun n' I' J' R' b1 b2 b3 b4 hP => ?_))
  refine E_aload_n dL_law_835 rfl ?_
  refine E_xload_n dL_law_836 rfl ⟨_, rfl⟩ ?_
  refine E_iload_n dL_law_837 rfl ?_
  refine E_ic (1) dL_law_838 (by decide) ?_
  refine E_iadd dL_law_839 ?_
  refine E.top (show nI i + 1 = nI (i + 1) from nI_add i 1) ?_
  refine E_sld dL_law_840 (vp_in_nI (by omega) (by omega)) ?_
  refine E_xload_n dL_law_841 rfl ⟨_, rfl⟩ ?_
  refine E_iload_n dL_law_842 rfl ?_
  refine E_ic (2) dL_law_843 (by decide) ?_
  refine E_iadd dL_law_844 ?_
  refine E.top (show nI i + 2 = nI (i + 2) from nI_add i 2) ?_
  refine E_sld dL_law_845 (vp_in_nI (by omega) (by omega)) ?_
  refine E_xload_n dL_law_846 rfl ⟨_, rfl⟩ ?_
  refine E_iload_n dL_law_847 rfl ?_
  refine E_ic (3) dL_law_848 (by decide) ?_
  refine E_iadd dL_law_849 ?_
  refine E.top (show nI i + 3 = nI (i + 3) from nI_add i 3) ?_
  refine E_sld dL_law_850 (vp_in_nI (by omega) (by omega)) ?_
  refine E.weak (kc := 0 + (kc - kx)) (ks := 0 + (ks - sx)) (by omega) (by omega) ?_
  refine E_callV (As := [_, _, _]) (ci := 11) (d' := 900) (kc' := 0) (ks' := 0) (kc := kc - kx) (ks := ks - sx) dL_law_851 ok_X12_wear w_L_98 i_X12_wear s_X12_wear rfl (by decide) rfl (by omega) rfl rfl rfl (Nat.le_of_ble_eq_true rfl) (Nat.le_of_ble_eq_true rfl) (by decide) (hM _ _ _ _ hP _ (fun I2 J2 R2 hI2 => ?_))
  refine E_icmp_eq (tgt := 954) dL_law_854 (by decide) (fun _ => ?_) (fun c => absurd rfl c)
  exact K _ _ _ _ _ _ hI2 (by omega) (by omega)
set_option maxRecDepth 100000 in
set_option maxHeartbeats 400000 in
theorem lc_20 {INV : IV} (hn : ∀ n I J R, INV n I J R → 152 ≤ n ∧ n ≤ 153) (hp : ∀ a1 : Int32, PairI INV mX11_seed mX12_seed [.int a1]) {g : GL} {i n kc ks : Nat} {I : IM} {J : JM} {R : RM} {Q : PQ} (hi : i + 6 ≤ (gX g).2.1) (hL : (gX g).2.1 ≤ 3072) (h : INV n I J R) (hk : 153 - n ≤ kc) (hs : 49500 * (153 - n) ≤ ks) (K : ∀ n' I' J' R' kc' ks', INV n' I' J' R' → 153 - n' ≤ kc' → 49500 * (153 - n') ≤ ks' → E g mL 1000 kc' ks' 954 [.retAddr 0, .ref 0, .ref 114, .int (nI i)] [] n' I' J' R' Q) : E g mL 1000 kc ks 859 [.retAddr 0, .ref 0, .ref 114, .int (nI i)] [] n I J R Q := by
  have hn1 := hn n I J R h
  obtain ⟨r, P, kx, sx, ⟨z, rfl⟩, e1, e2, hX, hM⟩ := hp ((gX g).2.2 (nI (i + 1)).toNatClampNeg) g n I J R h
  refine E_aload_n dL_law_859 rfl ?_
  refine E_xload_n dL_law_860 rfl ⟨_, rfl⟩ ?_
  refine E_iload_n dL_law_861 rfl ?_
  refine E_ic (1) dL_law_862 (by decide) ?_
  refine E_iadd dL_law_863 ?_
  refine E.top (show nI i + 1 = nI (i + 1) from nI_add i 1) ?_
  refine E_sld dL_law_864 (vp_in_nI (by omega) (by omega)) ?_
  refine E.weak (kc := kx + (kc - kx)) (ks := sx + (ks - sx)) (by omega) (by omega) ?_
  refine E_callV (As := [_]) (ci := 10) (d' := 900) (kc' := kx) (ks' := sx) (kc := kc - kx) (ks := ks - sx) dL_law_865 ok_X11_seed w_L_99 i_X11_seed s_X11_seed rfl (by decide) rfl (by omega) rfl rfl rfl (Nat.le_of_ble_eq_true rfl) (Nat.le_of_ble_eq_true rfl) (by decide) (hX _ (fun n' I' J' R' b1 b2 b3 b4 hP => ?_))
  refine E_aload_n dL_law_868 rfl ?_
  refine E_xload_n dL_law_869 rfl ⟨_, rfl⟩ ?_
  refine E_iload_n dL_law_870 rfl ?_
  refine E_ic (1) dL_law_871 (by decide) ?_
  refine E_iadd dL_law_872 ?_
  refine E.top (show nI i + 1 = nI (i + 1) from nI_add i 1) ?_
  refine E_sld dL_law_873 (vp_in_nI (by omega) (by omega)) ?_
  refine E.weak (kc := 0 + (kc - kx)) (ks := 0 + (ks - sx)) (by omega) (by omega) ?_
  refine E_callV (As := [_]) (ci := 11) (d' := 900) (kc' := 0) (ks' := 0) (kc := kc - kx) (ks := ks - sx) dL_law_874 ok_X12_seed w_L_102 i_X12_seed s_X12_seed rfl (by decide) rfl (by omega) rfl rfl rfl (Nat.le_of_ble_eq_true rfl) (Nat.le_of_ble_eq_true rfl) (by decide) (hM _ _ _ _ hP _ (fun I2 J2 R2 hI2 => ?_))
  refine E_icmp_eq (tgt := 954) dL_law_877 (by decide) (fun _ => ?_) (fun c => absurd rfl c)
  exact K _ _ _ _ _ _ hI2 (by omega) (by omega)
set_option maxRecDepth 100000 in
set_option maxHeartbeats 400000 in
theorem lc_21 {INV : IV} (hn : ∀ n I J R, INV n I J R → 152 ≤ n ∧ n ≤ 153) (hp : PairI INV mX11_keep mX12_keep []) {g : GL} {i n kc ks : Nat} {I : IM} {J : JM} {R : RM} {Q : PQ} (hi : i + 6 ≤ (gX g).2.1) (hL : (gX g).2.1 ≤ 3072) (h : INV n I J R) (hk : 153 - n ≤ kc) (hs : 49500 * (153 - n) ≤ ks) (K : ∀ n' I' J' R' kc' ks', INV n' I' J' R' → 153 - n' ≤ kc' → 49500 * (153 - n') ≤ ks' → E g mL 1000 kc' ks' 954 [.retAddr 0, .ref 0, .ref 114, .int (nI i)] [] n' I' J' R' Q) : E g mL 1000 kc ks 882 [.retAddr 0, .ref 0, .ref 114, .int (nI i)] [] n I J R Q := by
  have hn1 := hn n I J R h
  obtain ⟨r, P, kx, sx, ⟨z, rfl⟩, e1, e2, hX, hM⟩ := hp g n I J R h
  refine E_aload_n dL_law_882 rfl ?_
  refine E.weak (kc := kx + (kc - kx)) (ks := sx + (ks - sx)) (by omega) (by omega) ?_
  refine E_callV (As := []) (ci := 10) (d' := 900) (kc' := kx) (ks' := sx) (kc := kc - kx) (ks := ks - sx) dL_law_883 ok_X11_keep w_L_103 i_X11_keep s_X11_keep rfl (by decide) rfl (by omega) rfl rfl rfl (Nat.le_of_ble_eq_true rfl) (Nat.le_of_ble_eq_true rfl) (by decide) (hX _ (fun n' I' J' R' b1 b2 b3 b4 hP => ?_))
  refine E_aload_n dL_law_886 rfl ?_
  refine E.weak (kc := 0 + (kc - kx)) (ks := 0 + (ks - sx)) (by omega) (by omega) ?_
  refine E_callV (As := []) (ci := 11) (d' := 900) (kc' := 0) (ks' := 0) (kc := kc - kx) (ks := ks - sx) dL_law_887 ok_X12_keep w_L_107 i_X12_keep s_X12_keep rfl (by decide) rfl (by omega) rfl rfl rfl (Nat.le_of_ble_eq_true rfl) (Nat.le_of_ble_eq_true rfl) (by decide) (hM _ _ _ _ hP _ (fun I2 J2 R2 hI2 => ?_))
  refine E_icmp_eq (tgt := 954) dL_law_890 (by decide) (fun _ => ?_) (fun c => absurd rfl c)
  exact K _ _ _ _ _ _ hI2 (by omega) (by omega)
set_option maxRecDepth 100000 in
set_option maxHeartbeats 400000 in
theorem lc_22 {INV : IV} (hn : ∀ n I J R, INV n I J R → 152 ≤ n ∧ n ≤ 153) (hp : PairI INV mX11_undo mX12_undo []) {g : GL} {i n kc ks : Nat} {I : IM} {J : JM} {R : RM} {Q : PQ} (hi : i + 6 ≤ (gX g).2.1) (hL : (gX g).2.1 ≤ 3072) (h : INV n I J R) (hk : 153 - n ≤ kc) (hs : 49500 * (153 - n) ≤ ks) (K : ∀ n' I' J' R' kc' ks', INV n' I' J' R' → 153 - n' ≤ kc' → 49500 * (153 - n') ≤ ks' → E g mL 1000 kc' ks' 954 [.retAddr 0, .ref 0, .ref 114, .int (nI i)] [] n' I' J' R' Q) : E g mL 1000 kc ks 895 [.retAddr 0, .ref 0, .ref 114, .int (nI i)] [] n I J R Q := by
  have hn1 := hn n I J R h
  obtain ⟨r, P, kx, sx, ⟨z, rfl⟩, e1, e2, hX, hM⟩ := hp g n I J R h
  refine E_aload_n dL_law_895 rfl ?_
  refine E.weak (kc := kx + (kc - kx)) (ks := sx + (ks - sx)) (by omega) (by omega) ?_
  refine E_callV (As := []) (ci := 10) (d' := 900) (kc' := kx) (ks' := sx) (kc := kc - kx) (ks := ks - sx) dL_law_896 ok_X11_undo w_L_108 i_X11_undo s_X11_undo rfl (by decide) rfl (by omega) rfl rfl rfl (Nat.le_of_ble_eq_true rfl) (Nat.le_of_ble_eq_true rfl) (by decide) (hX _ (fun n' I' J' R' b1 b2 b3 b4 hP => ?_))
  refine E_aload_n dL_law_899 rfl ?_
  refine E.weak (kc := 0 + (kc - kx)) (ks := 0 + (ks - sx)) (by omega) (by omega) ?_
  refine E_callV (As := []) (ci := 11) (d' := 900) (kc' := 0) (ks' := 0) (kc := kc - kx) (ks := ks - sx) dL_law_900 ok_X12_undo w_L_112 i_X12_undo s_X12_undo rfl (by decide) rfl (by omega) rfl rfl rfl (Nat.le_of_ble_eq_true rfl) (Nat.le_of_ble_eq_true rfl) (by decide) (hM _ _ _ _ hP _ (fun I2 J2 R2 hI2 => ?_))
  refine E_icmp_eq (tgt := 954) dL_law_903 (by decide) (fun _ => ?_) (fun c => absurd rfl c)
  exact K _ _ _ _ _ _ hI2 (by omega) (by omega)
set_option maxRecDepth 100000 in
set_option maxHeartbeats 400000 in
theorem lc_23 {INV : IV} (hn : ∀ n I J R, INV n I J R → 152 ≤ n ∧ n ≤ 153) (hp : ∀ a1 : Int32, PairI INV mX11_check mX12_check [.int a1]) {g : GL} {i n kc ks : Nat} {I : IM} {J : JM} {R : RM} {Q : PQ} (hi : i + 6 ≤ (gX g).2.1) (hL : (gX g).2.1 ≤ 3072) (h : INV n I J R) (hk : 153 - n ≤ kc) (hs : 49500 * (153 - n) ≤ ks) (K : ∀ n' I' J' R' kc' ks', INV n' I' J' R' → 153 - n' ≤ kc' → 49500 * (153 - n') ≤ ks' → E g mL 1000 kc' ks' 954 [.retAddr 0, .ref 0, .ref 114, .int (nI i)] [] n' I' J' R' Q) : E g mL 1000 kc ks 908 [.retAddr 0, .ref 0, .ref 114, .int (nI i)] [] n I J R Q := by
  have hn1 := hn n I J R h
  obtain ⟨r, P, kx, sx, ⟨z, rfl⟩, e1, e2, hX, hM⟩ := hp ((gX g).2.2 (nI (i + 1)).toNatClampNeg) g n I J R h
  refine E_aload_n dL_law_908 rfl ?_
  refine E_xload_n dL_law_909 rfl ⟨_, rfl⟩ ?_
  refine E_iload_n dL_law_910 rfl ?_
  refine E_ic (1) dL_law_911 (by decide) ?_
  refine E_iadd dL_law_912 ?_
  refine E.top (show nI i + 1 = nI (i + 1) from nI_add i 1) ?_
  refine E_sld dL_law_913 (vp_in_nI (by omega) (by omega)) ?_
  refine E.weak (kc := kx + (kc - kx)) (ks := sx + (ks - sx)) (by omega) (by omega) ?_
  refine E_callV (As := [_]) (ci := 10) (d' := 900) (kc' := kx) (ks' := sx) (kc := kc - kx) (ks := ks - sx) dL_law_914 ok_X11_check w_L_113 i_X11_check s_X11_check rfl (by decide) rfl (by omega) rfl rfl rfl (Nat.le_of_ble_eq_true rfl) (Nat.le_of_ble_eq_true rfl) (by decide) (hX _ (fun n' I' J' R' b1 b2 b3 b4 hP => ?_))
  refine E_aload_n dL_law_917 rfl ?_
  refine E_xload_n dL_law_918 rfl ⟨_, rfl⟩ ?_
  refine E_iload_n dL_law_919 rfl ?_
  refine E_ic (1) dL_law_920 (by decide) ?_
  refine E_iadd dL_law_921 ?_
  refine E.top (show nI i + 1 = nI (i + 1) from nI_add i 1) ?_
  refine E_sld dL_law_922 (vp_in_nI (by omega) (by omega)) ?_
  refine E.weak (kc := 0 + (kc - kx)) (ks := 0 + (ks - sx)) (by omega) (by omega) ?_
  refine E_callV (As := [_]) (ci := 11) (d' := 900) (kc' := 0) (ks' := 0) (kc := kc - kx) (ks := ks - sx) dL_law_923 ok_X12_check w_L_116 i_X12_check s_X12_check rfl (by decide) rfl (by omega) rfl rfl rfl (Nat.le_of_ble_eq_true rfl) (Nat.le_of_ble_eq_true rfl) (by decide) (hM _ _ _ _ hP _ (fun I2 J2 R2 hI2 => ?_))
  refine E_icmp_eq (tgt := 954) dL_law_926 (by decide) (fun _ => ?_) (fun c => absurd rfl c)
  exact K _ _ _ _ _ _ hI2 (by omega) (by omega)
set_option maxRecDepth 100000 in
set_option maxHeartbeats 400000 in
theorem lc_24 {INV : IV} (hn : ∀ n I J R, INV n I J R → 152 ≤ n ∧ n ≤ 153) (hp : ∀ a1 : Int32, PairI INV mX11_count mX12_count [.int a1]) {g : GL} {i n kc ks : Nat} {I : IM} {J : JM} {R : RM} {Q : PQ} (hi : i + 6 ≤ (gX g).2.1) (hL : (gX g).2.1 ≤ 3072) (h : INV n I J R) (hk : 153 - n ≤ kc) (hs : 49500 * (153 - n) ≤ ks) (K : ∀ n' I' J' R' kc' ks', INV n' I' J' R' → 153 - n' ≤ kc' → 49500 * (153 - n') ≤ ks' → E g mL 1000 kc' ks' 954 [.retAddr 0, .ref 0, .ref 114, .int (nI i)] [] n' I' J' R' Q) : E g mL 1000 kc ks 931 [.retAddr 0, .ref 0, .ref 114, .int (nI i)] [] n I J R Q := by
  have hn1 := hn n I J R h
  obtain ⟨r, P, kx, sx, ⟨z, rfl⟩, e1, e2, hX, hM⟩ := hp ((gX g).2.2 (nI (i + 1)).toNatClampNeg) g n I J R h
  refine E_aload_n dL_law_931 rfl ?_
  refine E_xload_n dL_law_932 rfl ⟨_, rfl⟩ ?_
  refine E_iload_n dL_law_933 rfl ?_
  refine E_ic (1) dL_law_934 (by decide) ?_
  refine E_iadd dL_law_935 ?_
  refine E.top (show nI i + 1 = nI (i + 1) from nI_add i 1) ?_
  refine E_sld dL_law_936 (vp_in_nI (by omega) (by omega)) ?_
  refine E.weak (kc := kx + (kc - kx)) (ks := sx + (ks - sx)) (by omega) (by omega) ?_
  refine E_callV (As := [_]) (ci := 10) (d' := 900) (kc' := kx) (ks' := sx) (kc := kc - kx) (ks := ks - sx) dL_law_937 ok_X11_count w_L_117 i_X11_count s_X11_count rfl (by decide) rfl (by omega) rfl rfl rfl (Nat.le_of_ble_eq_true rfl) (Nat.le_of_ble_eq_true rfl) (by decide) (hX _ (fun n' I' J' R' b1 b2 b3 b4 hP => ?_))
  refine E_aload_n dL_law_940 rfl ?_
  refine E_xload_n dL_law_941 rfl ⟨_, rfl⟩ ?_
  refine E_iload_n dL_law_942 rfl ?_
  refine E_ic (1) dL_law_943 (by decide) ?_
  refine E_iadd dL_law_944 ?_
  refine E.top (show nI i + 1 = nI (i + 1) from nI_add i 1) ?_
  refine E_sld dL_law_945 (vp_in_nI (by omega) (by omega)) ?_
  refine E.weak (kc := 0 + (kc - kx)) (ks := 0 + (ks - sx)) (by omega) (by omega) ?_
  refine E_callV (As := [_]) (ci := 11) (d' := 900) (kc' := 0) (ks' := 0) (kc := kc - kx) (ks := ks - sx) dL_law_946 ok_X12_count w_L_120 i_X12_count s_X12_count rfl (by decide) rfl (by omega) rfl rfl rfl (Nat.le_of_ble_eq_true rfl) (Nat.le_of_ble_eq_true rfl) (by decide) (hM _ _ _ _ hP _ (fun I2 J2 R2 hI2 => ?_))
  refine E_icmp_eq (tgt := 954) dL_law_949 (by decide) (fun _ => ?_) (fun c => absurd rfl c)
  exact K _ _ _ _ _ _ hI2 (by omega) (by omega)
set_option maxRecDepth 100000 in
set_option maxHeartbeats 400000 in
theorem law_loop {INV : IV} (hn : ∀ n I J R, INV n I J R → 152 ≤ n ∧ n ≤ 153) (hp0 : ∀ a1 : Int32, PairI INV mX11_screw mX12_screw [.int a1]) (hp1 : ∀ a1 a2 a3 a4 a5 : Int32, PairI INV mX11_feed mX12_feed [.int a1, .int a2, .int a3, .int a4, .int a5]) (hp2 : ∀ a1 : Int32, PairI INV mX11_law mX12_law [.int a1]) (hp3 : ∀ a1 a2 : Int32, PairI INV mX11_witness mX12_witness [.int a1, .int a2]) (hp4 : ∀ a1 a2 : Int32, PairI INV mX11_draw mX12_draw [.int a1, .int a2]) (hp5 : ∀ a1 a2 a3 : Int32, PairI INV mX11_tried mX12_tried [.int a1, .int a2, .int a3]) (hp6 : ∀ a1 a2 : Int32, PairI INV mX11_witnessIs mX12_witnessIs [.int a1, .int a2]) (hp7 : ∀ a1 a2 a3 : Int32, PairI INV mX11_layerIs mX12_layerIs [.int a1, .int a2, .int a3]) (hp8 : ∀ a1 a2 a3 : Int32, PairI INV mX11_plan mX12_plan [.int a1, .int a2, .int a3]) (hp9 : ∀ a1 a2 : Int32, PairI INV mX11_heard mX12_heard [.int a1, .int a2]) (hp10 : ∀ a1 a2 : Int32, PairI INV mX11_agree mX12_agree [.int a1, .int a2]) (hp11 : ∀ a1 a2 : Int32, PairI INV mX11_atOdds mX12_atOdds [.int a1, .int a2]) (hp12 : ∀ a1 a2 : Int32, PairI INV mX11_years mX12_years [.int a1, .int a2]) (hp13 : ∀ a1 : Int32, PairI INV mX11_peak mX12_peak [.int a1]) (hp14 : ∀ a1 : Int32, PairI INV mX11_who mX12_who [.int a1]) (hp15 : ∀ a1 a2 : Int32, PairL INV mX11_jury mX12_jury [.int a1, .int a2]) (hp16 : ∀ a1 a2 a3 : Int32, PairI INV mX11_tasters mX12_tasters [.int a1, .int a2, .int a3]) (hp17 : ∀ a1 a2 : Int32, PairI INV mX11_jugs mX12_jugs [.int a1, .int a2]) (hp18 : ∀ a1 a2 a3 : Int32, PairI INV mX11_cellar mX12_cellar [.int a1, .int a2, .int a3]) (hp19 : ∀ a1 a2 a3 : Int32, PairI INV mX11_wear mX12_wear [.int a1, .int a2, .int a3]) (hp20 : ∀ a1 : Int32, PairI INV mX11_seed mX12_seed [.int a1]) (hp21 : PairI INV mX11_keep mX12_keep []) (hp22 : PairI INV mX11_undo mX12_undo []) (hp23 : ∀ a1 : Int32, PairI INV mX11_check mX12_check [.int a1]) (hp24 : ∀ a1 : Int32, PairI INV mX11_count mX12_count [.int a1]) {g : GL} {Q : PQ} (hL : (gX g).2.1 ≤ 3072) (hQ : ∀ n I J R, Q (some (.int 1)) n I J R) : ∀ (m i n kc ks : Nat) (I : IM) (J : JM) (R : RM), (gX g).2.1 < i + 6 * m → i ≤ (gX g).2.1 → INV n I J R → 153 - n ≤ kc → 49500 * (153 - n) ≤ ks → E g mL 1000 kc ks 18 [.retAddr 0, .ref 0, .ref 114, .int (nI i)] [] n I J R Q := by
  intro m
  induction m with
  | zero => intro i n kc ks I J R h1 h2; exact absurd h1 (by omega)
  | succ m ih =>
    intro i n kc ks I J R h1 h2 h hk hs
    have hn1 := hn n I J R h
    refine E_iload_n dL_law_18 rfl ?_
    refine E_xload_n dL_law_19 rfl ⟨_, rfl⟩ ?_
    refine E_slen dL_law_20 ?_
    refine E_bp (6) dL_law_21 (by decide) ?_
    refine E_isub dL_law_23 ?_
    have hsub : (Int32.ofNat (gX g).2.1 - 6 : Int32).toInt = ((gX g).2.1 : Int) - 6 := pk_sub_toInt (a := (gX g).2.1) (b := 6) (by omega) (by omega)
    have hcmp : (Int32.ofNat (gX g).2.1 - 6 < nI i) ↔ (gX g).2.1 < i + 6 := by
      rw [Int32.lt_iff_toInt_lt, hsub, nI_toInt (by omega)]
      omega
    refine E_icmp_gt (tgt := 960) dL_law_24 (by decide) (fun c24 => ?_) (fun c24 => ?_)
    · refine E_ic (1) dL_law_960 (by decide) ?_
      exact E_zret dL_law_961 rfl (by decide) (hQ _ _ _ _)
    · have hi : i + 6 ≤ (gX g).2.1 := by
        rcases Nat.lt_or_ge (gX g).2.1 (i + 6) with q | q
        · exact absurd (hcmp.mpr q) c24
        · exact q
      refine E_xload_n dL_law_27 rfl ⟨_, rfl⟩ ?_
      refine E_iload_n dL_law_28 rfl ?_
      refine E_sld dL_law_29 (vp_in_nI (by omega) (by omega)) ?_
      refine E_bp (31) dL_law_30 (by decide) ?_
      refine E_iand dL_law_32 ?_
      obtain ⟨j, hj, hv⟩ := pk_andE ((gX g).2.2 (nI i).toNatClampNeg) (m := 31) 5 (by decide)
      refine E.top hv ?_
      have K : ∀ n' I' J' R' kc' ks', INV n' I' J' R' → 153 - n' ≤ kc' → 49500 * (153 - n') ≤ ks' → E g mL 1000 kc' ks' 954 [.retAddr 0, .ref 0, .ref 114, .int (nI i)] [] n' I' J' R' Q := by
        intro n' I' J' R' kc' ks' h' hk' hs'
        refine E_inc (6) dL_law_954 rfl (by decide) ?_
        refine E_goto (tgt := 18) dL_law_957 (by decide) ?_
        have e : nI i + 6 = nI (i + 6) := nI_add i 6
        rw [e]
        exact ih (i + 6) n' kc' ks' I' J' R' (by omega) (by omega) h' hk' hs'
      match j, hj with
      | 0, _ =>
        refine E_tin (tgt := 148) dL_law_33 (by decide) (by decide) rfl (by decide) ?_
        exact lc_0 hn hp0 hi hL h hk hs K
      | 1, _ =>
        refine E_tin (tgt := 171) dL_law_33 (by decide) (by decide) rfl (by decide) ?_
        exact lc_1 hn hp1 hi hL h hk hs K
      | 2, _ =>
        refine E_tin (tgt := 234) dL_law_33 (by decide) (by decide) rfl (by decide) ?_
        exact lc_2 hn hp2 hi hL h hk hs K
      | 3, _ =>
        refine E_tin (tgt := 257) dL_law_33 (by decide) (by decide) rfl (by decide) ?_
        exact lc_3 hn hp3 hi hL h hk hs K
      | 4, _ =>
        refine E_tin (tgt := 290) dL_law_33 (by decide) (by decide) rfl (by decide) ?_
        exact lc_4 hn hp4 hi hL h hk hs K
      | 5, _ =>
        refine E_tin (tgt := 323) dL_law_33 (by decide) (by decide) rfl (by decide) ?_
        exact lc_5 hn hp5 hi hL h hk hs K
      | 6, _ =>
        refine E_tin (tgt := 366) dL_law_33 (by decide) (by decide) rfl (by decide) ?_
        exact lc_6 hn hp6 hi hL h hk hs K
      | 7, _ =>
        refine E_tin (tgt := 399) dL_law_33 (by decide) (by decide) rfl (by decide) ?_
        exact lc_7 hn hp7 hi hL h hk hs K
      | 8, _ =>
        refine E_tin (tgt := 442) dL_law_33 (by decide) (by decide) rfl (by decide) ?_
        exact lc_8 hn hp8 hi hL h hk hs K
      | 9, _ =>
        refine E_tin (tgt := 485) dL_law_33 (by decide) (by decide) rfl (by decide) ?_
        exact lc_9 hn hp9 hi hL h hk hs K
      | 10, _ =>
        refine E_tin (tgt := 518) dL_law_33 (by decide) (by decide) rfl (by decide) ?_
        exact lc_10 hn hp10 hi hL h hk hs K
      | 11, _ =>
        refine E_tin (tgt := 551) dL_law_33 (by decide) (by decide) rfl (by decide) ?_
        exact lc_11 hn hp11 hi hL h hk hs K
      | 12, _ =>
        refine E_tin (tgt := 584) dL_law_33 (by decide) (by decide) rfl (by decide) ?_
        exact lc_12 hn hp12 hi hL h hk hs K
      | 13, _ =>
        refine E_tin (tgt := 617) dL_law_33 (by decide) (by decide) rfl (by decide) ?_
        exact lc_13 hn hp13 hi hL h hk hs K
      | 14, _ =>
        refine E_tin (tgt := 640) dL_law_33 (by decide) (by decide) rfl (by decide) ?_
        exact lc_14 hn hp14 hi hL h hk hs K
      | 15, _ =>
        refine E_tin (tgt := 663) dL_law_33 (by decide) (by decide) rfl (by decide) ?_
        exact lc_15 hn hp15 hi hL h hk hs K
      | 16, _ =>
        refine E_tin (tgt := 697) dL_law_33 (by decide) (by decide) rfl (by decide) ?_
        exact lc_16 hn hp16 hi hL h hk hs K
      | 17, _ =>
        refine E_tin (tgt := 740) dL_law_33 (by decide) (by decide) rfl (by decide) ?_
        exact lc_17 hn hp17 hi hL h hk hs K
      | 18, _ =>
        refine E_tin (tgt := 773) dL_law_33 (by decide) (by decide) rfl (by decide) ?_
        exact lc_18 hn hp18 hi hL h hk hs K
      | 19, _ =>
        refine E_tin (tgt := 816) dL_law_33 (by decide) (by decide) rfl (by decide) ?_
        exact lc_19 hn hp19 hi hL h hk hs K
      | 20, _ =>
        refine E_tin (tgt := 859) dL_law_33 (by decide) (by decide) rfl (by decide) ?_
        exact lc_20 hn hp20 hi hL h hk hs K
      | 21, _ =>
        refine E_tin (tgt := 882) dL_law_33 (by decide) (by decide) rfl (by decide) ?_
        exact lc_21 hn hp21 hi hL h hk hs K
      | 22, _ =>
        refine E_tin (tgt := 895) dL_law_33 (by decide) (by decide) rfl (by decide) ?_
        exact lc_22 hn hp22 hi hL h hk hs K
      | 23, _ =>
        refine E_tin (tgt := 908) dL_law_33 (by decide) (by decide) rfl (by decide) ?_
        exact lc_23 hn hp23 hi hL h hk hs K
      | 24, _ =>
        refine E_tin (tgt := 931) dL_law_33 (by decide) (by decide) rfl (by decide) ?_
        exact lc_24 hn hp24 hi hL h hk hs K
      | 25, _ =>
        refine E_tout (tgt := 954) dL_law_33 (Or.inr (by decide)) (by decide) ?_
        exact K _ _ _ _ _ _ h hk hs
      | 26, _ =>
        refine E_tout (tgt := 954) dL_law_33 (Or.inr (by decide)) (by decide) ?_
        exact K _ _ _ _ _ _ h hk hs
      | 27, _ =>
        refine E_tout (tgt := 954) dL_law_33 (Or.inr (by decide)) (by decide) ?_
        exact K _ _ _ _ _ _ h hk hs
      | 28, _ =>
        refine E_tout (tgt := 954) dL_law_33 (Or.inr (by decide)) (by decide) ?_
        exact K _ _ _ _ _ _ h hk hs
      | 29, _ =>
        refine E_tout (tgt := 954) dL_law_33 (Or.inr (by decide)) (by decide) ?_
        exact K _ _ _ _ _ _ h hk hs
      | 30, _ =>
        refine E_tout (tgt := 954) dL_law_33 (Or.inr (by decide)) (by decide) ?_
        exact K _ _ _ _ _ _ h hk hs
      | 31, _ =>
        refine E_tout (tgt := 954) dL_law_33 (Or.inr (by decide)) (by decide) ?_
        exact K _ _ _ _ _ _ h hk hs
      | j + 32, h => exact absurd h (by omega)
