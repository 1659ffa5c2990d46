/-! ===== plan: the class's search ===== -/
theorem E.agree {g : GL} {M : MD} {d kc ks pc n : Nat} {ls st : List Value} {I I2 : IM} {J : JM} {R : RM} {Q : PQ} (hI : ∀ a, a < n → I2 a = I a) (k : E g M d kc ks pc ls st n I2 J R Q) : E g M d kc ks pc ls st n I J R Q := by
  intro p l e Rm s m args below meth c H locs cells slots mc ms la Z
  obtain ⟨z1, z2, z3, z4, z5, z6, z7, z8⟩ := Z
  exact k p l e Rm s m args below meth c H locs cells slots mc ms la ⟨z1, z2, z3, z4, z5, ⟨z6.1, z6.2.1, fun a ha => (z6.2.2 a ha).kept (hI a ha) rfl rfl rfl⟩, z7, z8⟩
theorem spP_v {nx : Nat → Nat → Nat} {ou br : Nat → Nat → Bool} {b : BS} {h : Nat} : ∀ dd, dd ≤ 6 → ¬ (spP nx ou br b h dd).2 = 0 → ((spP nx ou br b h dd).2 - 1) / 8 = lvP b h + 1
  | 0, _, z => absurd rfl z
  | dd + 1, hd, z => by
    by_cases e : (spP nx ou br b h dd).2 = 0
    · by_cases o : ou (b.2.1 h) dd
      · rw [spP_o e o]
        have hf := fd_lt (l := lvP b h) (f := fsP b h) (dd := dd) (Nat.mod_lt _ (by decide)) (by omega)
        show (mkP (lvP b h + 1) (fdP (lvP b h) (fsP b h) dd) - 1) / 8 = lvP b h + 1
        revert hf
        generalize fdP (lvP b h) (fsP b h) dd = fx
        generalize lvP b h = lx
        intro hf
        unfold mkP
        omega
      · by_cases w : br (b.2.1 h) dd
        · rw [spP_b e o w] at z
          exact absurd rfl z
        · rw [spP_n e o w] at z
          exact absurd rfl z
    · rw [spP_x e]
      exact spP_v dd (by omega) e
theorem lv_keep {b b' : BS} {V : Nat → Prop} {K i : Nat} (h : EJ b b') (hW : WP V K b) (hi : i < b.1) : lvP b' i = lvP b i := by
  show (_ - 1) / 8 = (_ - 1) / 8
  rw [h.lv hi (hW.1 i hi).2]
section PSeekX
variable {g : GL} {d n : Nat} {J : JM} {R : RM} {Q : PQ} {k LN T : Nat} {Y S D : FN} {q : LWD}
set_option maxRecDepth 100000 in
set_option maxHeartbeats 2000000 in
theorem x_seekI {dp en : Nat} (hn3 : n = 153) (hR : RS R) (hw : R 37 1 = some 152) (hk : k < 12) (hq : LWF q) (hLN : LN ≤ 24) (hT : T ≤ 24) (hO : okD LN D) (h5 : D 5 = 0) (hdp : dp < 20) : ∀ (e hd : Nat) (I : IM), hd + e = en → (srP (nxP q k LN Y S) (ouP q k LN Y S T) (brP q k LN Y S) (skB D) hd).2 = 0 → en ≤ (srP (nxP q k LN Y S) (ouP q k LN Y S T) (brP q k LN Y S) (skB D) hd).1.1 → (∀ i, hd ≤ i → i < en → lvP (srP (nxP q k LN Y S) (ouP q k LN Y S T) (brP q k LN Y S) (skB D) hd).1 i = dp) → (∀ i, en ≤ i → i < (srP (nxP q k LN Y S) (ouP q k LN Y S T) (brP q k LN Y S) (skB D) hd).1.1 → lvP (srP (nxP q k LN Y S) (ouP q k LN Y S T) (brP q k LN Y S) (skB D) hd).1 i = dp + 1) → XP (srP (nxP q k LN Y S) (ouP q k LN Y S T) (brP q k LN Y S) (skB D) hd).1 I → BXc k LN Y S q I R → (∃ c7, I 22 6 = nI c7) → (∀ I2 : IM, FS I I2 → ¬ (srP (nxP q k LN Y S) (ouP q k LN Y S T) (brP q k LN Y S) (skB D) 49500).2 = 0 → I2 37 3 = nI (((srP (nxP q k LN Y S) (ouP q k LN Y S T) (brP q k LN Y S) (skB D) 49500).2 - 1) / 8) → I2 37 4 = nI (((srP (nxP q k LN Y S) (ouP q k LN Y S T) (brP q k LN Y S) (skB D) 49500).2 - 1) % 8) → Q (some (.int (nI 1))) n I2 J R) → (∀ I2 : IM, FS I I2 → (srP (nxP q k LN Y S) (ouP q k LN Y S T) (brP q k LN Y S) (skB D) en).2 = 0 → en ≤ (srP (nxP q k LN Y S) (ouP q k LN Y S T) (brP q k LN Y S) (skB D) en).1.1 → (∀ i, en ≤ i → i < (srP (nxP q k LN Y S) (ouP q k LN Y S T) (brP q k LN Y S) (skB D) en).1.1 → lvP (srP (nxP q k LN Y S) (ouP q k LN Y S T) (brP q k LN Y S) (skB D) en).1 i = dp + 1) → XP (srP (nxP q k LN Y S) (ouP q k LN Y S T) (brP q k LN Y S) (skB D) en).1 I2 → BXc k LN Y S q I2 R → (∃ c7, I2 22 6 = nI c7) → E g mX6_seek (d + 7) 0 0 104 [.ref 37, .ref 22, .int (nI T), .int (nI en), .int (nI (dp + 1)), .int (nI en)] [] n I2 J R Q) → E g mX6_seek (d + 7) 0 0 67 [.ref 37, .ref 22, .int (nI T), .int (nI hd), .int (nI (dp + 1)), .int (nI en)] [] n I J R Q := by
  have hN : 153 ≤ n := by omega
  have hWa := srP_ok (nx := nxP q k LN Y S) (ou := ouP q k LN Y S T) (br := brP q k LN Y S) (skB_ok hLN hO h5) (fun _ z => z.1) (nx_ok hLN)
  intro e
  induction e with
  | zero =>
    intro hd I hde h0 hen hA hC hP hX hc hF hE
    have : hd = en := by omega
    subst this
    have hcn := (hWa hd).le
    refine E_iload_n dX6_seek_67 rfl ?_
    refine E_iload dX6_seek_68 rfl ?_
    refine E_cN_ge (a := hd) (b := hd) (tgt := 104) dX6_seek_70 (by omega) (by omega) (by decide) (fun cw70 => ?_) (fun cw70 => absurd cw70 (by omega))
    exact hE I (FS.refl I) h0 hen hC hP hX hc
  | succ e ih =>
    intro hd I hde h0 hen hA hC hP hX hc hF hE
    have hWh := hWa hd
    have hcn := hWh.le
    have hlt : hd < (srP (nxP q k LN Y S) (ouP q k LN Y S T) (brP q k LN Y S) (skB D) hd).1.1 := by omega
    obtain ⟨s, hs0⟩ : ∃ s, (srP (nxP q k LN Y S) (ouP q k LN Y S T) (brP q k LN Y S) (skB D) hd).1.2.1 hd = s := ⟨_, rfl⟩
    obtain ⟨f, hf0⟩ : ∃ f, fsP (srP (nxP q k LN Y S) (ouP q k LN Y S T) (brP q k LN Y S) (skB D) hd).1 hd = f := ⟨_, rfl⟩
    have hl0 := hA hd (Nat.le_refl _) (by omega)
    have e1 : srP (nxP q k LN Y S) (ouP q k LN Y S T) (brP q k LN Y S) (skB D) (hd + 1) = spP (nxP q k LN Y S) (ouP q k LN Y S T) (brP q k LN Y S) (srP (nxP q k LN Y S) (ouP q k LN Y S T) (brP q k LN Y S) (skB D) hd).1 hd 6 := srP_t h0 hlt (by rw [hl0]; exact hdp)
    obtain ⟨w1, w2, w3⟩ := spP_ok (nx := nxP q k LN Y S) (ou := ouP q k LN Y S T) (br := brP q k LN Y S) hWh hlt (fun _ z => z.1) (nx_ok hLN) 6 (Nat.le_refl _)
    by_cases cr : (spP (nxP q k LN Y S) (ouP q k LN Y S T) (brP q k LN Y S) (srP (nxP q k LN Y S) (ouP q k LN Y S T) (brP q k LN Y S) (skB D) hd).1 hd 6).2 = 0
    · skip
      refine E_iload_n dX6_seek_67 rfl ?_
      refine E_iload dX6_seek_68 rfl ?_
      refine E_cN_ge (a := hd) (b := en) (tgt := 104) dX6_seek_70 (by omega) (by omega) (by decide) (fun cw70 => absurd cw70 (by omega)) (fun cw70 => ?_)
      refine E_aload_n dX6_seek_73 rfl ?_
      refine E_aload_n dX6_seek_74 rfl ?_
      refine E_aload_n dX6_seek_75 rfl ?_
      refine E_getR dX6_seek_76 f_X6_15 rfl (Nat.lt_of_lt_of_le (by decide) hN) rfl hw ?_
      refine E_iload_n dX6_seek_79 rfl ?_
      refine E_ialdN dX6_seek_80 rfl (Nat.lt_of_lt_of_le (by decide) hN) (by omega) ?_
      refine E.top ((hP.2.1 hd hlt).trans (by rw [hs0, hf0])) ?_
      refine E_iload dX6_seek_81 rfl ?_
      refine E_iload_n dX6_seek_83 rfl ?_
      refine E_callV (As := [_, _, _, _]) (ci := 5) (kc' := 0) (ks' := 0) (kc := 0) (ks := 0) dX6_seek_84 ok_X6_spread w_X6_55 i_X6_spread s_X6_spread rfl (by decide) rfl (Nat.lt_of_lt_of_le (by decide) hN) rfl rfl rfl (Nat.le_of_ble_eq_true rfl) (Nat.le_of_ble_eq_true rfl) (Nat.le_refl _) (x_spread (d := d) (b := (srP (nxP q k LN Y S) (ouP q k LN Y S T) (brP q k LN Y S) (skB D) hd).1) (h := hd) (s := s) (f := f) (l := dp) hn3 hR hw hk hq hLN hT hWh hlt hs0 hf0 hl0 hdp hP hX hc (fun I2 f2 p2 x2 c2 v2 => ?_))
      refine E.top (congrArg nI (if_pos cr)) ?_
      refine E_zN_eq (a := 0) (tgt := 98) dX6_seek_87 (by decide) (by decide) (fun cw87 => ?_) (fun cw87 => absurd cw87 (by omega))
      refine E_incN dX6_seek_98 rfl ?_
      refine E_goto (tgt := 67) dX6_seek_101 (by decide) ?_
      refine ih (hd + 1) I2 (by omega) (by rw [e1]; exact cr) ?_ (fun i i1 i2 => ?_) (fun i i1 i2 => ?_) (by rw [e1]; exact p2) x2 c2 (fun I5 f5 => hF I5 (f2.trans f5)) (fun I5 f5 => hE I5 (f2.trans f5))
      · rw [e1]
        exact Nat.le_trans hen w2.1
      · rw [e1]
        exact (lv_keep w2 hWh (by omega)).trans (hA i (by omega) i2)
      · rw [e1] at i2 ⊢
        by_cases ci : i < (srP (nxP q k LN Y S) (ouP q k LN Y S T) (brP q k LN Y S) (skB D) hd).1.1
        · exact (lv_keep w2 hWh ci).trans (hC i i1 ci)
        · exact (w3 i (by omega) i2).trans (by rw [hl0])
    · skip
      refine E_iload_n dX6_seek_67 rfl ?_
      refine E_iload dX6_seek_68 rfl ?_
      refine E_cN_ge (a := hd) (b := en) (tgt := 104) dX6_seek_70 (by omega) (by omega) (by decide) (fun cw70 => absurd cw70 (by omega)) (fun cw70 => ?_)
      refine E_aload_n dX6_seek_73 rfl ?_
      refine E_aload_n dX6_seek_74 rfl ?_
      refine E_aload_n dX6_seek_75 rfl ?_
      refine E_getR dX6_seek_76 f_X6_15 rfl (Nat.lt_of_lt_of_le (by decide) hN) rfl hw ?_
      refine E_iload_n dX6_seek_79 rfl ?_
      refine E_ialdN dX6_seek_80 rfl (Nat.lt_of_lt_of_le (by decide) hN) (by omega) ?_
      refine E.top ((hP.2.1 hd hlt).trans (by rw [hs0, hf0])) ?_
      refine E_iload dX6_seek_81 rfl ?_
      refine E_iload_n dX6_seek_83 rfl ?_
      refine E_callV (As := [_, _, _, _]) (ci := 5) (kc' := 0) (ks' := 0) (kc := 0) (ks := 0) dX6_seek_84 ok_X6_spread w_X6_55 i_X6_spread s_X6_spread rfl (by decide) rfl (Nat.lt_of_lt_of_le (by decide) hN) rfl rfl rfl (Nat.le_of_ble_eq_true rfl) (Nat.le_of_ble_eq_true rfl) (Nat.le_refl _) (x_spread (d := d) (b := (srP (nxP q k LN Y S) (ouP q k LN Y S T) (brP q k LN Y S) (skB D) hd).1) (h := hd) (s := s) (f := f) (l := dp) hn3 hR hw hk hq hLN hT hWh hlt hs0 hf0 hl0 hdp hP hX hc (fun I2 f2 p2 x2 c2 v2 => ?_))
      refine E.top (congrArg nI (if_neg cr)) ?_
      refine E_zN_eq (a := 1) (tgt := 98) dX6_seek_87 (by decide) (by decide) (fun cw87 => absurd cw87 (by omega)) (fun cw87 => ?_)
      refine E_aload_n dX6_seek_90 rfl ?_
      refine E_iload dX6_seek_91 rfl ?_
      refine E_putI dX6_seek_93 f_X6_22 rfl (Nat.lt_of_lt_of_le (by decide) hN) rfl ?_
      refine E_ic (nI 1) dX6_seek_96 (by decide) ?_
      exact E_zret dX6_seek_97 rfl (by decide) (by
        have e2 : srP (nxP q k LN Y S) (ouP q k LN Y S T) (brP q k LN Y S) (skB D) 49500 = spP (nxP q k LN Y S) (ouP q k LN Y S T) (brP q k LN Y S) (srP (nxP q k LN Y S) (ouP q k LN Y S T) (brP q k LN Y S) (skB D) hd).1 hd 6 := by
          rw [show 49500 = hd + 1 + (49499 - hd) by omega, srP_found (by rw [e1]; exact cr), e1]
        have v1 := spP_v (nx := nxP q k LN Y S) (ou := ouP q k LN Y S T) (br := brP q k LN Y S) (b := (srP (nxP q k LN Y S) (ouP q k LN Y S T) (brP q k LN Y S) (skB D) hd).1) (h := hd) 6 (Nat.le_refl _) cr
        rw [e2] at hF
        exact hF _ (f2.trans (fun x _ _ _ _ z _ _ => up2_o I2 37 3 _ x z)) cr ((up2_s _ _ _ _).trans (congrArg nI (by rw [v1, hl0]))) ((up2_k _ _ (by decide)).trans (v2 cr)))
set_option maxRecDepth 100000 in
set_option maxHeartbeats 2000000 in
theorem x_seekO (hn3 : n = 153) (hR : RS R) (hw : R 37 1 = some 152) (hk : k < 12) (hq : LWF q) (hLN : LN ≤ 24) (hT : T ≤ 24) (hO : okD LN D) (h5 : D 5 = 0) : ∀ (e dp hd : Nat) (I : IM), dp + e = 20 → (srP (nxP q k LN Y S) (ouP q k LN Y S T) (brP q k LN Y S) (skB D) hd).2 = 0 → hd ≤ (srP (nxP q k LN Y S) (ouP q k LN Y S T) (brP q k LN Y S) (skB D) hd).1.1 → (∀ i, hd ≤ i → i < (srP (nxP q k LN Y S) (ouP q k LN Y S T) (brP q k LN Y S) (skB D) hd).1.1 → lvP (srP (nxP q k LN Y S) (ouP q k LN Y S T) (brP q k LN Y S) (skB D) hd).1 i = dp) → XP (srP (nxP q k LN Y S) (ouP q k LN Y S T) (brP q k LN Y S) (skB D) hd).1 I → BXc k LN Y S q I R → (∃ c7, I 22 6 = nI c7) → (∀ I2 : IM, FS I I2 → ¬ (srP (nxP q k LN Y S) (ouP q k LN Y S T) (brP q k LN Y S) (skB D) 49500).2 = 0 → I2 37 3 = nI (((srP (nxP q k LN Y S) (ouP q k LN Y S T) (brP q k LN Y S) (skB D) 49500).2 - 1) / 8) → I2 37 4 = nI (((srP (nxP q k LN Y S) (ouP q k LN Y S T) (brP q k LN Y S) (skB D) 49500).2 - 1) % 8) → Q (some (.int (nI 1))) n I2 J R) → (∀ I2 : IM, FS I I2 → (srP (nxP q k LN Y S) (ouP q k LN Y S T) (brP q k LN Y S) (skB D) 49500).2 = 0 → Q (some (.int (nI 0))) n I2 J R) → E g mX6_seek (d + 7) 0 0 46 [.ref 37, .ref 22, .int (nI T), .int (nI hd), .int (nI (dp + 1)), jk] [] n I J R Q := by
  have hN : 153 ≤ n := by omega
  have hWa := srP_ok (nx := nxP q k LN Y S) (ou := ouP q k LN Y S T) (br := brP q k LN Y S) (skB_ok hLN hO h5) (fun _ z => z.1) (nx_ok hLN)
  intro e
  induction e with
  | zero =>
    intro dp hd I hde h0 hen hA hP hX hc hF hE
    have hcn := (hWa hd).le
    have e2 : srP (nxP q k LN Y S) (ouP q k LN Y S T) (brP q k LN Y S) (skB D) 49500 = srP (nxP q k LN Y S) (ouP q k LN Y S T) (brP q k LN Y S) (skB D) hd := by
      rw [show 49500 = hd + (49500 - hd) by omega]
      exact srP_over (fun i i1 i2 => by rw [hA i i1 i2]; omega) _
    refine E_iload dX6_seek_46 rfl ?_
    refine E_bp (nI 20) dX6_seek_48 (by decide) ?_
    refine E_cN_gt (a := dp + 1) (b := 20) (tgt := 110) dX6_seek_50 (by omega) (by decide) (by decide) (fun cw50 => ?_) (fun cw50 => absurd cw50 (by omega))
    refine E_ic (nI 0) dX6_seek_110 (by decide) ?_
    exact E_zret dX6_seek_111 rfl (by decide) (hE I (FS.refl I) (by rw [e2]; exact h0))
  | succ e ih =>
    intro dp hd I hde h0 hen hA hP hX hc hF hE
    have hcn := (hWa hd).le
    obtain ⟨cn, hcn0⟩ : ∃ cn, (srP (nxP q k LN Y S) (ouP q k LN Y S T) (brP q k LN Y S) (skB D) hd).1.1 = cn := ⟨_, rfl⟩
    have hcn1 : cn ≤ 49500 := by omega
    refine E_iload dX6_seek_46 rfl ?_
    refine E_bp (nI 20) dX6_seek_48 (by decide) ?_
    refine E_cN_gt (a := dp + 1) (b := 20) (tgt := 110) dX6_seek_50 (by omega) (by decide) (by decide) (fun cw50 => absurd cw50 (by omega)) (fun cw50 => ?_)
    refine E_aload_n dX6_seek_53 rfl ?_
    refine E_getI dX6_seek_54 f_X6_18 rfl (Nat.lt_of_lt_of_le (by decide) hN) rfl ?_
    refine E.top (hP.1.trans (congrArg nI hcn0)) ?_
    refine E_aload_n dX6_seek_57 rfl ?_
    refine E_getR dX6_seek_58 f_X6_15 rfl (Nat.lt_of_lt_of_le (by decide) hN) rfl hw ?_
    refine E_alen dX6_seek_61 rfl (Nat.lt_of_lt_of_le (by decide) hN) (by decide) (by decide) ?_
    refine E.top (show _ = nI 49500 from rfl) ?_
    refine E_mmin dX6_seek_62 w_X6_49 (Nat.le_of_ble_eq_true rfl) (by omega) ?_
    refine E.top (nI_min cn 49500 (by omega) (by omega)) ?_
    refine E.top (show nI (min cn 49500) = nI cn from congrArg nI (by omega)) ?_
    refine E_istore dX6_seek_65 (Nat.le_of_ble_eq_true rfl) ?_
    refine x_seekI (d := d) (dp := dp) (en := cn) hn3 hR hw hk hq hLN hT hO h5 (by omega) (cn - hd) hd I (by omega) h0 (by omega) (fun i i1 i2 => hA i i1 (by omega)) (fun i i1 i2 => absurd i2 (by omega)) hP hX hc hF (fun I2 f2 z2 n2 a2 p2 x2 c2 => ?_)
    refine E_incN dX6_seek_104 rfl ?_
    refine E_goto (tgt := 46) dX6_seek_107 (by decide) ?_
    refine E.mask [true, true, true, true, true, false] ?_
    exact ih (dp + 1) cn I2 (by omega) z2 n2 a2 p2 x2 c2 (fun I5 f5 => hF I5 (f2.trans f5)) (fun I5 f5 => hE I5 (f2.trans f5))
set_option maxRecDepth 100000 in
set_option maxHeartbeats 2000000 in
theorem x_seek16 {I : IM} (hn3 : n = 153) (hR : RS R) (hw : R 37 1 = some 152) (hk : k < 12) (hq : LWF q) (hLN : LN ≤ 24) (hT : T ≤ 24) (hO : okD LN D) (h5 : D 5 = 0) (hX : BXc k LN Y S q I R) (hD : BDc D I) (hF : (∀ I2 : IM, FS I I2 → ¬ (srP (nxP q k LN Y S) (ouP q k LN Y S T) (brP q k LN Y S) (skB D) 49500).2 = 0 → I2 37 3 = nI (((srP (nxP q k LN Y S) (ouP q k LN Y S T) (brP q k LN Y S) (skB D) 49500).2 - 1) / 8) → I2 37 4 = nI (((srP (nxP q k LN Y S) (ouP q k LN Y S T) (brP q k LN Y S) (skB D) 49500).2 - 1) % 8) → Q (some (.int (nI 1))) n I2 J R)) (hE : (∀ I2 : IM, FS I I2 → (srP (nxP q k LN Y S) (ouP q k LN Y S T) (brP q k LN Y S) (skB D) 49500).2 = 0 → Q (some (.int (nI 0))) n I2 J R)) : E g mX6_seek (d + 7) 0 0 16 [.ref 37, .ref 22, .int (nI T), jk, jk, jk] [] n I J R Q := by
  have hN : 153 ≤ n := by omega
  have o38 : ∀ x, x ≠ 38 → fil I 38 1547 (nI 0) x = I x := fun x hx => funext fun y => if_neg (fun z => hx z.1)
  have hD1 : BDc D (up2 (fil I 38 1547 (nI 0)) 37 2 (nI 0)) := hD.row (by rw [up2_o _ 37 _ _ 22 (by decide), o38 22 (by decide)]) (by rw [up2_o _ 37 _ _ 23 (by decide), o38 23 (by decide)])
  have fp1 : FP I (up2 (fil I 38 1547 (nI 0)) 37 2 (nI 0)) := fun x h1 h2 _ => by rw [up2_o _ 37 _ _ x h1, o38 x h2]
  have bz : ∀ j, j < 32 → bt (nI 0) j = false := by decide
  have hP0 : XP (0, fun _ => 0, fun _ => 0) (up2 (fil I 38 1547 (nI 0)) 37 2 (nI 0)) := ⟨up2_s _ _ _ _, fun i hi => absurd (show i < 0 from hi) (Nat.not_lt_zero i), fun s hs => by
    rw [up2_o _ 37 _ _ 38 (by decide), show fil I 38 1547 (nI 0) 38 (s / 32) = nI 0 from if_pos ⟨rfl, by omega⟩, bz _ (by omega)]
    rfl⟩
  have hW0 : WP (vP LN) 49500 (0, fun _ => 0, fun _ => 0) := ⟨fun i hi => absurd (show i < 0 from hi) (Nat.not_lt_zero i), cnS_0 49500⟩
  refine E_aload_n dX6_seek_16 rfl ?_
  refine E_getR dX6_seek_17 f_X6_11 rfl (Nat.lt_of_lt_of_le (by decide) hN) rfl (hR _ _ _ rfl) ?_
  refine E_ic (nI 0) dX6_seek_20 (by decide) ?_
  refine E_callS (As := [_, _]) (kc' := 0) (ks' := 0) (kc := 0) (ks := 0) dX6_seek_21 ok_J7_fill_53178 w_X6_29 st_J7_fill_53178 rfl rfl rfl (Nat.le_of_ble_eq_true rfl) (Nat.le_of_ble_eq_true rfl) (Nat.le_refl _) (c_fillI (L := 1547) rfl (Nat.lt_of_lt_of_le (by decide) hN) ?_)
  refine E_aload_n dX6_seek_24 rfl ?_
  refine E_ic (nI 0) dX6_seek_25 (by decide) ?_
  refine E_putI dX6_seek_26 f_X6_18 rfl (Nat.lt_of_lt_of_le (by decide) hN) rfl ?_
  refine E_aload_n dX6_seek_29 rfl ?_
  refine E_aload_n dX6_seek_30 rfl ?_
  refine E_getR dX6_seek_31 f_X6_35 rfl (Nat.lt_of_lt_of_le (by decide) hN) rfl (hR _ _ _ rfl) ?_
  refine E_callS (As := [_]) (kc' := 0) (ks' := 0) (kc := 0) (ks := 0) dX6_seek_34 ok_X6_packed w_X6_41 st_X6_packed rfl rfl rfl (Nat.le_of_ble_eq_true rfl) (Nat.le_of_ble_eq_true rfl) (Nat.le_refl _) (x_packed (LN := LN) (Nat.le_of_succ_le hN) hLN hO h5 hD1 ?_)
  refine E_ic (nI 0) dX6_seek_37 (by decide) ?_
  refine E_callV (As := [_, _]) (ci := 5) (kc' := 0) (ks' := 0) (kc := 0) (ks := 0) dX6_seek_38 ok_X6_note w_X6_45 i_X6_note s_X6_note rfl (by decide) rfl (Nat.lt_of_lt_of_le (by decide) hN) rfl rfl rfl (Nat.le_of_ble_eq_true rfl) (Nat.le_of_ble_eq_true rfl) (Nat.le_refl _) (x_note (V := vP LN) (b := (0, fun _ => 0, fun _ => 0)) (s := pkD D) (f := 0) (v := 1) hn3 hR hw hW0 hP0 (pk_vP hLN hO h5).1 (by decide) rfl (fun I4 f4 p4 g4 => ?_))
  refine E_ic (nI 0) dX6_seek_41 (by decide) ?_
  refine E_istore_n dX6_seek_42 (Nat.le_of_ble_eq_true rfl) ?_
  refine E_ic (nI 1) dX6_seek_43 (by decide) ?_
  refine E_istore dX6_seek_44 (Nat.le_of_ble_eq_true rfl) ?_
  refine x_seekO (d := d) hn3 hR hw hk hq hLN hT hO h5 20 0 0 I4 rfl rfl (Nat.zero_le _) (fun i i1 i2 => ?_) p4 ((hX.keepP hk fp1).keepP hk f4) ⟨_, (congrFun (f4 22 (by decide) (by decide) (by decide)) 6).trans hD1.2.1⟩ (fun I5 f5 => hF I5 (((FS.ofP fp1).trans (FS.ofP f4)).trans f5)) (fun I5 f5 => hE I5 (((FS.ofP fp1).trans (FS.ofP f4)).trans f5))
  have i3 : i < 1 := i2
  have i4 : i = 0 := by omega
  subst i4
  show ((skB D).2.2 ((skB D).2.1 0) - 1) / 8 = 0
  rw [show skB D = (0 + 1, up1 (fun _ => 0) 0 (pkD D), up1 (fun _ => 0) (pkD D) 1) from nt_t rfl]
  show (up1 (fun _ => 0) (pkD D) 1 (up1 (fun _ => 0) 0 (pkD D) 0) - 1) / 8 = 0
  rw [up1_s, up1_s]
end PSeekX
