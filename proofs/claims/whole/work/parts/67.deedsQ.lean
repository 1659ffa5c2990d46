/-! ===== plan: the reference's loop over the deeds ===== -/
theorem nI_n3 {a : Nat} (h : a < 2 ^ 31) : ¬ nI a = -3 := fun z => nI_pos h (by rw [z]; decide)
theorem nt_bd {b : BS} {s v B : Nat} (hb : ∀ t, b.2.2 t ≤ B) (hv : v ≤ B) : ∀ t, (nt b s v).2.2 t ≤ B := by
  intro t
  by_cases e : b.2.2 s = 0
  · rw [nt_t e]
    show up1 b.2.2 s v t ≤ B
    unfold up1
    split
    · exact hv
    · exact hb t
  · rw [nt_f e]
    exact hb t
theorem spP_bd {nx : Nat → Nat → Nat} {ou br : Nat → Nat → Bool} {b : BS} {h : Nat} (hb : ∀ t, b.2.2 t ≤ 176) (hl : lvP b h < 20) : ∀ dd, dd ≤ 6 → ∀ t, (spP nx ou br b h dd).1.2.2 t ≤ 176
  | 0, _ => hb
  | dd + 1, hd => by
    have ih := spP_bd (nx := nx) (ou := ou) (br := br) hb hl dd (by omega)
    have hf := fd_lt (l := lvP b h) (f := fsP b h) (dd := dd) (Nat.mod_lt _ (by decide)) (by omega)
    have hm : mkP (lvP b h + 1) (fdP (lvP b h) (fsP b h) dd) ≤ 176 := by
      revert hf hl
      generalize fdP (lvP b h) (fsP b h) dd = fx
      generalize lvP b h = lx
      intro hf hl
      unfold mkP
      omega
    by_cases e : (spP nx ou br b h dd).2 = 0
    · by_cases o : ou (b.2.1 h) dd
      · rw [spP_o e o]
        exact ih
      · by_cases w : br (b.2.1 h) dd
        · rw [spP_b e o w]
          exact ih
        · rw [spP_n e o w]
          exact nt_bd ih hm
    · rw [spP_x e]
      exact ih
theorem srP_bd {nx : Nat → Nat → Nat} {ou br : Nat → Nat → Bool} {b : BS} (hb : ∀ t, b.2.2 t ≤ 176) : ∀ h t, (srP nx ou br b h).1.2.2 t ≤ 176
  | 0 => hb
  | h + 1 => by
    have ih := srP_bd (nx := nx) (ou := ou) (br := br) hb h
    by_cases c : (srP nx ou br b h).2 = 0 ∧ h < (srP nx ou br b h).1.1 ∧ lvP (srP nx ou br b h).1 h < 20
    · rw [srP_t c.1 c.2.1 c.2.2]
      exact spP_bd ih c.2.2 6 (Nat.le_refl _)
    · rw [show srP nx ou br b (h + 1) = srP nx ou br b h from if_neg c]
      exact ih
section PDeedsQ
variable {g : GL} {d n : Nat} {J : JM} {R : RM} {Q : PQ} {k LN h T s f l z0 : Nat} {Y S : FN} {q : LWD} {b : BS}
set_option maxRecDepth 100000 in
set_option maxHeartbeats 2000000 in
theorem m_deedsL (hN : 152 ≤ n) (hR : RS R) (hk : k < 12) (hq : LWF q) (hLN : LN ≤ 24) (hT : T ≤ 24) (hW : WP (vP LN) 49500 b) (hh : h < b.1) (hs0 : b.2.1 h = s) (hf0 : fsP b h = f) (hl0 : lvP b h = l) (hl : l < 20) (hi0 : h = 0 ↔ l = 0) (hbz : ∀ t, b.2.2 t ≠ 0 → zP LN T t) (hbd : ∀ t, b.2.2 t ≤ 176) : ∀ (e dd cnt : Nat) (I : IM), dd + e = 6 → (spP (nxP q k LN Y S) (ouP q k LN Y S T) (brP q k LN Y S) b h dd).2 = 0 → cnt = (spP (nxP q k LN Y S) (ouP q k LN Y S T) (brP q k LN Y S) b h dd).1.1 → XM LN (spP (nxP q k LN Y S) (ouP q k LN Y S T) (brP q k LN Y S) b h dd).1 I → I 114 46 = -3 → I 114 47 = -3 → MCr k LN Y S q I → (∀ I2 : IM, FM I I2 → (spP (nxP q k LN Y S) (ouP q k LN Y S T) (brP q k LN Y S) b h 6).2 = 0 → XM LN (spP (nxP q k LN Y S) (ouP q k LN Y S T) (brP q k LN Y S) b h 6).1 I2 → I2 114 46 = -3 → I2 114 47 = -3 → MCr k LN Y S q I2 → E g mX12_laysPlan (d + 6) 0 0 263 [.ref 114, .int (nI k), .int (nI T), .int (nI z0), .int (nI ((spP (nxP q k LN Y S) (ouP q k LN Y S T) (brP q k LN Y S) b h 6).1.1)), .int (nI h), jk, jk] [] n I2 J R Q) → (∀ (I2 : IM) (b2 : BS), FM I I2 → ¬ (spP (nxP q k LN Y S) (ouP q k LN Y S T) (brP q k LN Y S) b h 6).2 = 0 → XM LN b2 I2 → (∀ i, i < b2.1 → vP LN (b2.2.1 i)) → b2.1 ≤ 49500 → I2 114 46 = nI (((spP (nxP q k LN Y S) (ouP q k LN Y S T) (brP q k LN Y S) b h 6).2 - 1) / 8) → I2 114 47 = nI (((spP (nxP q k LN Y S) (ouP q k LN Y S T) (brP q k LN Y S) b h 6).2 - 1) % 8) → E g mX12_laysPlan (d + 6) 0 0 263 [.ref 114, .int (nI k), .int (nI T), .int (nI z0), .int (nI (b2.1)), .int (nI h), jk, jk] [] n I2 J R Q) → E g mX12_laysPlan (d + 6) 0 0 74 [.ref 114, .int (nI k), .int (nI T), .int (nI z0), .int (nI cnt), .int (nI h), .int (nI dd), jk] [] n I J R Q := by
  have hv : vP LN s := by rw [← hs0]; exact (hW.1 h hh).1
  have hf : f < 8 := by rw [← hf0]; exact Nat.mod_lt _ (by decide)
  have hlq : rkN s < 100000 := rk_lt hLN (unD_ok hv)
  have hbl := hW.le
  have hm : ¬ b.2.2 s = 0 := by rw [← hs0]; exact (hW.1 h hh).2
  have hlm : (b.2.2 s - 1) / 8 = l := by rw [← hl0, ← hs0]
  have hfm : (b.2.2 s - 1) % 8 = f := by rw [← hf0, ← hs0]
  have hout : s / 1980 ≤ T := (hbz s hm).2
  intro e
  induction e with
  | zero =>
    intro dd cnt I hde h0 hcn hP hps hpf hX hQ0 hQ1
    have hd6 : dd = 6 := by omega
    subst hd6
    refine E_iload dX12_laysPlan_74 rfl ?_
    refine E_bp (nI 6) dX12_laysPlan_76 (by decide) ?_
    refine E_cN_ge (a := 6) (b := 6) (tgt := 263) dX12_laysPlan_78 (by decide) (by decide) (by decide) (fun cw78 => ?_) (fun cw78 => absurd cw78 (by omega))
    refine E.mask [true, true, true, true, true, true, false, false] ?_
    rw [hcn]
    exact hQ0 I (FM.refl I) h0 hP hps hpf hX
  | succ e ih =>
    intro dd cnt I hde h0 hcn hP hps hpf hX hQ0 hQ1
    obtain ⟨hWd, hEd, _⟩ := spP_ok (nx := nxP q k LN Y S) (ou := ouP q k LN Y S T) (br := brP q k LN Y S) hW hh (fun _ y => y.1) (nx_ok hLN) dd (by omega)
    have hZd := spP_m (nx := nxP q k LN Y S) (ou := ouP q k LN Y S T) (br := brP q k LN Y S) (h := h) hbz (fun dd hd o w => nx_z hLN _ dd (hW.1 h hh).1 hd o w) dd (by omega)
    have hlt : h < (spP (nxP q k LN Y S) (ouP q k LN Y S T) (brP q k LN Y S) b h dd).1.1 := Nat.lt_of_lt_of_le hh hEd.1
    have hsc : (spP (nxP q k LN Y S) (ouP q k LN Y S T) (brP q k LN Y S) b h dd).1.2.1 h = s := (hEd.2.1 h hh).trans hs0
    have hms : (spP (nxP q k LN Y S) (ouP q k LN Y S T) (brP q k LN Y S) b h dd).1.2.2 s = b.2.2 s := hEd.2.2 s hm
    have hsm : ¬ (spP (nxP q k LN Y S) (ouP q k LN Y S T) (brP q k LN Y S) b h dd).1.2.2 s = 0 := by rw [hms]; exact hm
    have hst : (if (spP (nxP q k LN Y S) (ouP q k LN Y S T) (brP q k LN Y S) b h dd).1.2.2 s = 0 then 0 else ((spP (nxP q k LN Y S) (ouP q k LN Y S T) (brP q k LN Y S) b h dd).1.2.2 s - 1) / 8 + 1) = l + 1 := by rw [if_neg hsm, hms, hlm]
    have hcl := hWd.le
    obtain ⟨D1, hD1⟩ : ∃ D1, nxD q k LN Y S s dd = D1 := ⟨_, rfl⟩
    have oD1 : okD LN D1 := by rw [← hD1]; exact ddS_ok (unD_ok hv)
    obtain ⟨o0, o1, o2, o3, o4, o5, o6, o7, o8, o9⟩ := id oD1
    have hob : T < D1 3 → D1 5 = 0 := fun y => by rw [← hD1] at y ⊢; exact dd_out rfl (Nat.lt_of_le_of_lt hout y)
    obtain ⟨fd, hfd⟩ : ∃ fd, fdP l f dd = fd := ⟨_, rfl⟩
    have hfd8 : fd < 8 := by rw [← hfd]; exact fd_lt hf (by omega)
    have ho1 : T < D1 3 → ouP q k LN Y S T (b.2.1 h) dd = true := fun y => by rw [hs0]; exact decide_eq_true (by show T < nxD q k LN Y S s dd 3; rw [hD1]; exact y)
    have ho0 : ¬ T < D1 3 → ¬ ouP q k LN Y S T (b.2.1 h) dd = true := fun y w => y (by rw [hs0] at w; have w2 : T < nxD q k LN Y S s dd 3 := of_decide_eq_true w; rw [hD1] at w2; exact w2)
    have hb1 : ¬ D1 5 = 0 → brP q k LN Y S (b.2.1 h) dd = true := fun y => by rw [hs0]; exact decide_eq_true (by show ¬ nxD q k LN Y S s dd 5 = 0; rw [hD1]; exact y)
    have hb0 : D1 5 = 0 → ¬ brP q k LN Y S (b.2.1 h) dd = true := fun y w => by rw [hs0] at w; have w2 : ¬ nxD q k LN Y S s dd 5 = 0 := of_decide_eq_true w; rw [hD1] at w2; exact w2 y
    by_cases cb : D1 5 = 0
    · have hpk := pk_vP hLN oD1 cb
      have hrk : rkD D1 = rkN (pkD D1) := by
        have u := un_pk oD1 cb
        unfold rkN rkD
        rw [u 0 (by decide), u 1 (by decide), u 2 (by decide), u 3 (by decide), u 4 (by decide)]
      have hrl : rkN (pkD D1) < 100000 := rk_lt hLN (unD_ok hpk)
      by_cases hzz : (spP (nxP q k LN Y S) (ouP q k LN Y S T) (brP q k LN Y S) b h dd).1.2.2 (pkD D1) = 0
      · have hroom := hWd.room hpk.1 hzz
        by_cases hz0 : h = 0
        · have hfe : dd = fd := by rw [← hfd]; exact (if_pos (hi0.mp hz0)).symm
          by_cases co : T < D1 3
          · skip
            refine E_iload dX12_laysPlan_74 rfl ?_
            refine E_bp (nI 6) dX12_laysPlan_76 (by decide) ?_
            refine E_cN_ge (a := dd) (b := 6) (tgt := 263) dX12_laysPlan_78 (by omega) (by decide) (by decide) (fun cw78 => absurd cw78 (by omega)) (fun cw78 => ?_)
            refine E_aload_n dX12_laysPlan_81 rfl ?_
            refine E_getI dX12_laysPlan_82 f_X12_360 rfl (Nat.lt_of_lt_of_le (by decide) hN) rfl ?_
            refine E.top (hps) ?_
            refine E_bp (-3) dX12_laysPlan_85 (by decide) ?_
            refine E_icmp_ne (tgt := 263) dX12_laysPlan_87 (by decide) (fun cw87 => by first | exact absurd cw87 (rfl) | exact absurd (rfl) cw87) (fun cw87 => ?_)
            refine E_aload_n dX12_laysPlan_90 rfl ?_
            refine E_iload_n dX12_laysPlan_91 rfl ?_
            refine E_aload_n dX12_laysPlan_92 rfl ?_
            refine E_getR dX12_laysPlan_93 f_X12_84 rfl (Nat.lt_of_lt_of_le (by decide) hN) rfl (hR _ _ _ rfl) ?_
            refine E_iload dX12_laysPlan_96 rfl ?_
            refine E_ialdN dX12_laysPlan_98 rfl (Nat.lt_of_lt_of_le (by decide) hN) (by omega) ?_
            refine E.top ((hP.1 h hlt).trans (congrArg (fun y => nI (rkN y)) hsc)) ?_
            refine E_callV (As := [_, _]) (ci := 11) (kc' := 0) (ks' := 0) (kc := 0) (ks := 0) dX12_laysPlan_99 ok_X12_laysState w_X12_366 i_X12_laysState s_X12_laysState rfl (by decide) rfl (Nat.lt_of_lt_of_le (by decide) hN) rfl rfl rfl (Nat.le_of_ble_eq_true rfl) (Nat.le_of_ble_eq_true rfl) (Nat.le_refl _) (m_laysState (c0 := 0) (LN := LN) (s := s) (Y := Y) hN hR hk hLN hv rfl (fun I2 f2 g2 d2 => ?_))
            refine E_aload_n dX12_laysPlan_102 rfl ?_
            refine E_iload_n dX12_laysPlan_103 rfl ?_
            refine E_ic (nI 0) dX12_laysPlan_104 (by decide) ?_
            refine E_ic (nI 0) dX12_laysPlan_105 (by decide) ?_
            refine E_callV (As := [_, _, _]) (ci := 11) (kc' := 0) (ks' := 0) (kc := 0) (ks := 0) dX12_laysPlan_106 ok_X12_feels w_X12_332 i_X12_feels s_X12_feels rfl (by decide) rfl (Nat.lt_of_lt_of_le (by decide) hN) rfl rfl rfl (Nat.le_of_ble_eq_true rfl) (Nat.le_of_ble_eq_true rfl) (Nat.le_refl _) (m_feels0 (d := d + 4) (i := 0) (w := 0) (D := unD s) hN hR hk hq hLN (hX.keepM (FM.row f2 (by decide))) (unD_ok hv) d2 (fun I3 f3 a3 => ?_))
            refine E_aload_n dX12_laysPlan_109 rfl ?_
            refine E_iload_n dX12_laysPlan_110 rfl ?_
            refine E_iload dX12_laysPlan_111 rfl ?_
            refine E_ic (nI 0) dX12_laysPlan_113 (by decide) ?_
            refine E_callV (As := [_, _, _]) (ci := 11) (kc' := 0) (ks' := 0) (kc := 0) (ks := 0) dX12_laysPlan_114 ok_X12_does w_X12_336 i_X12_does s_X12_does rfl (by decide) rfl (Nat.lt_of_lt_of_le (by decide) hN) rfl rfl rfl (Nat.le_of_ble_eq_true rfl) (Nat.le_of_ble_eq_true rfl) (Nat.le_refl _) (m_doesA0 (d := d) (dd := dd) (i := 0) (w := 0) (c0 := 0) (D := unD s) (by omega) hN hR hk hq hLN (hX.keepM ((FM.row f2 (by decide)).trans (FM.row f3 (by decide)))) (unD_ok hv) ⟨by rw [f3 115 (by decide)]; exact d2.1, fun y => absurd y (by decide)⟩ a3 rfl (fun I4 f4 d4 => ?_))
            have d5 : MDr k 0 0 Y D1 I4 := by rw [← hD1]; exact d4
            refine E_aload_n dX12_laysPlan_117 rfl ?_
            refine E_iload_n dX12_laysPlan_118 rfl ?_
            refine E_callV (As := [_]) (ci := 11) (kc' := 0) (ks' := 0) (kc := 0) (ks := 0) dX12_laysPlan_119 ok_X12_stateOf w_X12_357 i_X12_stateOf s_X12_stateOf rfl (by decide) rfl (Nat.lt_of_lt_of_le (by decide) hN) rfl rfl rfl (Nat.le_of_ble_eq_true rfl) (Nat.le_of_ble_eq_true rfl) (Nat.le_refl _) (m_stateOf (c0 := 0) (Y := Y) (D := D1) hN hR hk d5 ?_)
            refine E.top (congrArg nI hrk) ?_
            refine E_istore dX12_laysPlan_122 (Nat.le_of_ble_eq_true rfl) ?_
            refine E_aload_n dX12_laysPlan_124 rfl ?_
            refine E_getR dX12_laysPlan_125 f_X12_7 rfl (Nat.lt_of_lt_of_le (by decide) hN) rfl (hR _ _ _ rfl) ?_
            refine E_bp (nI 48) dX12_laysPlan_128 (by decide) ?_
            refine E_iload_n dX12_laysPlan_130 rfl ?_
            refine E_iadd dX12_laysPlan_131 ?_
            refine E.top (nI_add 48 k) ?_
            refine E_ialdN dX12_laysPlan_132 rfl (Nat.lt_of_lt_of_le (by decide) hN) (by omega) ?_
            refine E.top (d5.1.2.2.2.2.2) ?_
            refine E_ic (nI 1) dX12_laysPlan_133 (by decide) ?_
            refine E_cN_eq (a := D1 5) (b := 1) (tgt := 257) dX12_laysPlan_134 (by omega) (by decide) (by decide) (fun cw134 => absurd cw134 (by omega)) (fun cw134 => ?_)
            refine E_aload_n dX12_laysPlan_137 rfl ?_
            refine E_getR dX12_laysPlan_138 f_X12_87 rfl (Nat.lt_of_lt_of_le (by decide) hN) rfl (hR _ _ _ rfl) ?_
            refine E_iload dX12_laysPlan_141 rfl ?_
            refine E_baldN dX12_laysPlan_143 rfl (Nat.lt_of_lt_of_le (by decide) hN) (by omega) ?_
            refine E.top (((hP.keep ((f4.1 139 (by decide) (by decide) (by decide) (by decide)).trans ((f3 139 (by decide)).trans (f2 139 (by decide)))) ((f4.1 140 (by decide) (by decide) (by decide) (by decide)).trans ((f3 140 (by decide)).trans (f2 140 (by decide)))) ((f4.1 141 (by decide) (by decide) (by decide) (by decide)).trans ((f3 141 (by decide)).trans (f2 141 (by decide))))).2.1 _ hpk).trans (congrArg nI (if_pos hzz))) ?_
            refine E_zN_eq (a := 0) (tgt := 150) dX12_laysPlan_144 (by omega) (by decide) (fun cw144 => ?_) (fun cw144 => absurd cw144 (by omega))
            refine E_aload_n dX12_laysPlan_150 rfl ?_
            refine E_getR dX12_laysPlan_151 f_X12_87 rfl (Nat.lt_of_lt_of_le (by decide) hN) rfl (hR _ _ _ rfl) ?_
            refine E_iload dX12_laysPlan_154 rfl ?_
            refine E_aload_n dX12_laysPlan_156 rfl ?_
            refine E_getR dX12_laysPlan_157 f_X12_87 rfl (Nat.lt_of_lt_of_le (by decide) hN) rfl (hR _ _ _ rfl) ?_
            refine E_aload_n dX12_laysPlan_160 rfl ?_
            refine E_getR dX12_laysPlan_161 f_X12_84 rfl (Nat.lt_of_lt_of_le (by decide) hN) rfl (hR _ _ _ rfl) ?_
            refine E_iload dX12_laysPlan_164 rfl ?_
            refine E_ialdN dX12_laysPlan_166 rfl (Nat.lt_of_lt_of_le (by decide) hN) (by omega) ?_
            refine E.top (((hP.keep ((f4.1 139 (by decide) (by decide) (by decide) (by decide)).trans ((f3 139 (by decide)).trans (f2 139 (by decide)))) ((f4.1 140 (by decide) (by decide) (by decide) (by decide)).trans ((f3 140 (by decide)).trans (f2 140 (by decide)))) ((f4.1 141 (by decide) (by decide) (by decide) (by decide)).trans ((f3 141 (by decide)).trans (f2 141 (by decide))))).1 h hlt).trans (congrArg (fun y => nI (rkN y)) hsc)) ?_
            refine E_baldN dX12_laysPlan_167 rfl (Nat.lt_of_lt_of_le (by decide) hN) (by omega) ?_
            refine E.top (((hP.keep ((f4.1 139 (by decide) (by decide) (by decide) (by decide)).trans ((f3 139 (by decide)).trans (f2 139 (by decide)))) ((f4.1 140 (by decide) (by decide) (by decide) (by decide)).trans ((f3 140 (by decide)).trans (f2 140 (by decide)))) ((f4.1 141 (by decide) (by decide) (by decide) (by decide)).trans ((f3 141 (by decide)).trans (f2 141 (by decide))))).2.1 _ hv).trans (congrArg nI hst)) ?_
            refine E_ic (nI 1) dX12_laysPlan_168 (by decide) ?_
            refine E_iadd dX12_laysPlan_169 ?_
            refine E.top (nI_add (l + 1) 1) ?_
            refine E_i2b dX12_laysPlan_170 ?_
            refine E.top (by_n (v := l + 1 + 1) (by omega)) ?_
            refine E_bastN dX12_laysPlan_171 rfl (Nat.lt_of_lt_of_le (by decide) hN) (by omega) ?_
            rw [by_n (show l + 2 < 128 by omega)]
            refine E_aload_n dX12_laysPlan_172 rfl ?_
            refine E_getR dX12_laysPlan_173 f_X12_90 rfl (Nat.lt_of_lt_of_le (by decide) hN) rfl (hR _ _ _ rfl) ?_
            refine E_iload dX12_laysPlan_176 rfl ?_
            refine E_iload dX12_laysPlan_178 rfl ?_
            refine E_zN_ne (a := h) (tgt := 189) dX12_laysPlan_180 (by omega) (by decide) (fun cw180 => absurd cw180 (by omega)) (fun cw180 => ?_)
            refine E_iload dX12_laysPlan_183 rfl ?_
            refine E_i2b dX12_laysPlan_185 ?_
            refine E.top ((by_n (v := dd) (by omega)).trans (congrArg nI hfe)) ?_
            refine E_goto (tgt := 201) dX12_laysPlan_186 (by decide) ?_
            refine E_bastN dX12_laysPlan_201 rfl (Nat.lt_of_lt_of_le (by decide) hN) (by omega) ?_
            rw [by_n (show fd < 128 by omega)]
            refine E_aload_n dX12_laysPlan_202 rfl ?_
            refine E_getR dX12_laysPlan_203 f_X12_84 rfl (Nat.lt_of_lt_of_le (by decide) hN) rfl (hR _ _ _ rfl) ?_
            refine E_iload dX12_laysPlan_206 rfl ?_
            refine E_iload dX12_laysPlan_208 rfl ?_
            refine E_iastN dX12_laysPlan_210 rfl (Nat.lt_of_lt_of_le (by decide) hN) (by omega) ?_
            refine E_iload dX12_laysPlan_211 rfl ?_
            refine E_ic (nI 1) dX12_laysPlan_213 (by decide) ?_
            refine E_iadd dX12_laysPlan_214 ?_
            refine E.top (nI_add cnt 1) ?_
            refine E_istore dX12_laysPlan_215 (Nat.le_of_ble_eq_true rfl) ?_
            refine E_aload_n dX12_laysPlan_217 rfl ?_
            refine E_getR dX12_laysPlan_218 f_X12_7 rfl (Nat.lt_of_lt_of_le (by decide) hN) rfl (hR _ _ _ rfl) ?_
            refine E_bp (nI 60) dX12_laysPlan_221 (by decide) ?_
            refine E_iload_n dX12_laysPlan_223 rfl ?_
            refine E_iadd dX12_laysPlan_224 ?_
            refine E.top (nI_add 60 k) ?_
            refine E_ialdN dX12_laysPlan_225 rfl (Nat.lt_of_lt_of_le (by decide) hN) (by omega) ?_
            refine E.top ((congrFun ((up2_o _ 139 _ _ 115 (by decide)).trans ((up2_o _ 141 _ _ 115 (by decide)).trans (up2_o _ 140 _ _ 115 (by decide)))) _).trans d5.1.2.2.2.1) ?_
            refine E_iload_n dX12_laysPlan_226 rfl ?_
            refine E_cN_gt (a := D1 3) (b := T) (tgt := 233) dX12_laysPlan_227 (by omega) (by omega) (by decide) (fun cw227 => ?_) (fun cw227 => absurd cw227 (by omega))
            refine E_aload_n dX12_laysPlan_233 rfl ?_
            refine E_aload_n dX12_laysPlan_234 rfl ?_
            refine E_getR dX12_laysPlan_235 f_X12_87 rfl (Nat.lt_of_lt_of_le (by decide) hN) rfl (hR _ _ _ rfl) ?_
            refine E_iload dX12_laysPlan_238 rfl ?_
            refine E_baldN dX12_laysPlan_240 rfl (Nat.lt_of_lt_of_le (by decide) hN) (by omega) ?_
            refine E.top ((congrFun ((up2_o _ 139 _ _ 140 (by decide)).trans (up2_o _ 141 _ _ 140 (by decide))) _).trans (up2_s _ _ _ _)) ?_
            refine E_ic (nI 1) dX12_laysPlan_241 (by decide) ?_
            refine E_isub dX12_laysPlan_242 ?_
            refine E.top (pk_sub (a := l + 2) (b := 1) (by omega)) ?_
            refine E_putI dX12_laysPlan_243 f_X12_360 rfl (Nat.lt_of_lt_of_le (by decide) hN) rfl ?_
            refine E_aload_n dX12_laysPlan_246 rfl ?_
            refine E_aload_n dX12_laysPlan_247 rfl ?_
            refine E_getR dX12_laysPlan_248 f_X12_90 rfl (Nat.lt_of_lt_of_le (by decide) hN) rfl (hR _ _ _ rfl) ?_
            refine E_iload dX12_laysPlan_251 rfl ?_
            refine E_baldN dX12_laysPlan_253 rfl (Nat.lt_of_lt_of_le (by decide) hN) (by omega) ?_
            refine E.top ((congrFun ((up2_o _ 114 _ _ 141 (by decide)).trans (up2_o _ 139 _ _ 141 (by decide))) _).trans (up2_s _ _ _ _)) ?_
            refine E_putI dX12_laysPlan_254 f_X12_363 rfl (Nat.lt_of_lt_of_le (by decide) hN) rfl ?_
            refine E_incN dX12_laysPlan_257 rfl ?_
            refine E_goto (tgt := 74) dX12_laysPlan_260 (by decide) ?_
            have xm : XM LN (nt (spP (nxP q k LN Y S) (ouP q k LN Y S T) (brP q k LN Y S) b h dd).1 (pkD D1) (mkP (l + 1) fd)) (up2 (up2 (up2 I4 140 (rkN (pkD D1)) (nI (l + 2))) 141 (rkN (pkD D1)) (nI fd)) 139 cnt (nI (rkN (pkD D1)))) := by rw [hcn]; exact XM_nt (hP.keep ((f4.1 139 (by decide) (by decide) (by decide) (by decide)).trans ((f3 139 (by decide)).trans (f2 139 (by decide)))) ((f4.1 140 (by decide) (by decide) (by decide) (by decide)).trans ((f3 140 (by decide)).trans (f2 140 (by decide)))) ((f4.1 141 (by decide) (by decide) (by decide) (by decide)).trans ((f3 141 (by decide)).trans (f2 141 (by decide))))) hpk hfd8 hzz (fun i hi => hWd.1 i hi)
            have n1 : (nt (spP (nxP q k LN Y S) (ouP q k LN Y S T) (brP q k LN Y S) b h dd).1 (pkD D1) (mkP (l + 1) fd)).1 = cnt + 1 := by rw [nt_t hzz, hcn]
            have e1 : spP (nxP q k LN Y S) (ouP q k LN Y S T) (brP q k LN Y S) b h (dd + 1) = ((spP (nxP q k LN Y S) (ouP q k LN Y S T) (brP q k LN Y S) b h dd).1, mkP (l + 1) fd) := (spP_o h0 (ho1 (by omega))).trans (by rw [hl0, hf0, hfd])
            have e6 : spP (nxP q k LN Y S) (ouP q k LN Y S T) (brP q k LN Y S) b h 6 = ((spP (nxP q k LN Y S) (ouP q k LN Y S T) (brP q k LN Y S) b h dd).1, mkP (l + 1) fd) := by
              rw [show 6 = dd + 1 + e by omega, spP_stay (by rw [e1]; unfold mkP; omega) e, e1]
            have fin := hQ1 (up2 (up2 (up2 (up2 (up2 I4 140 (rkN (pkD D1)) (nI (l + 2))) 141 (rkN (pkD D1)) (nI fd)) 139 cnt (nI (rkN (pkD D1)))) 114 46 (nI (l + 2 - 1))) 114 47 (nI fd)) (nt (spP (nxP q k LN Y S) (ouP q k LN Y S T) (brP q k LN Y S) b h dd).1 (pkD D1) (mkP (l + 1) fd)) (((((FM.row f2 (by decide)).trans (FM.row f3 (by decide))).trans (FM.ofM f4)).trans (((FM.row (up2_o I4 140 (rkN (pkD D1)) (nI (l + 2))) (by decide)).trans (FM.row (up2_o (up2 I4 140 (rkN (pkD D1)) (nI (l + 2))) 141 (rkN (pkD D1)) (nI fd)) (by decide))).trans (FM.row (up2_o (up2 (up2 I4 140 (rkN (pkD D1)) (nI (l + 2))) 141 (rkN (pkD D1)) (nI fd)) 139 cnt (nI (rkN (pkD D1)))) (by decide)))).trans ((FM.up (up2 (up2 (up2 I4 140 (rkN (pkD D1)) (nI (l + 2))) 141 (rkN (pkD D1)) (nI fd)) 139 cnt (nI (rkN (pkD D1)))) (nI (l + 2 - 1)) (by decide)).trans (FM.up (up2 (up2 (up2 (up2 I4 140 (rkN (pkD D1)) (nI (l + 2))) 141 (rkN (pkD D1)) (nI fd)) 139 cnt (nI (rkN (pkD D1)))) 114 46 (nI (l + 2 - 1))) (nI fd) (by decide)))) (by rw [e6]; unfold mkP; omega) (xm.keep ((up2_o _ 114 _ _ 139 (by decide)).trans (up2_o _ 114 _ _ 139 (by decide))) ((up2_o _ 114 _ _ 140 (by decide)).trans (up2_o _ 114 _ _ 140 (by decide))) ((up2_o _ 114 _ _ 141 (by decide)).trans (up2_o _ 114 _ _ 141 (by decide)))) (fun i hi => ((ntP hWd hpk hpk.1 (by unfold mkP; omega)).1.1 i hi).1) (by rw [n1]; omega) (by rw [e6]; exact (up2_k _ _ (by decide)).trans ((up2_s _ _ _ _).trans (congrArg nI (by unfold mkP; omega)))) (by rw [e6]; exact (up2_s _ _ _ _).trans (congrArg nI (by unfold mkP; omega)))
            rw [n1] at fin
            by_cases d6 : dd + 1 < 6
            · skip
              refine E_iload dX12_laysPlan_74 rfl ?_
              refine E_bp (nI 6) dX12_laysPlan_76 (by decide) ?_
              refine E_cN_ge (a := dd + 1) (b := 6) (tgt := 263) dX12_laysPlan_78 (by omega) (by decide) (by decide) (fun cw78 => absurd cw78 (by omega)) (fun cw78 => ?_)
              refine E_aload_n dX12_laysPlan_81 rfl ?_
              refine E_getI dX12_laysPlan_82 f_X12_360 rfl (Nat.lt_of_lt_of_le (by decide) hN) rfl ?_
              refine E.top ((up2_k _ _ (by decide)).trans (up2_s _ _ _ _)) ?_
              refine E_bp (-3) dX12_laysPlan_85 (by decide) ?_
              refine E_icmp_ne (tgt := 263) dX12_laysPlan_87 (by decide) (fun cw87 => ?_) (fun cw87 => by first | exact absurd cw87 (nI_n3 (by omega)) | exact absurd (nI_n3 (by omega)) cw87)
              refine E.mask [true, true, true, true, true, true, false, false] ?_
              exact fin
            · skip
              refine E_iload dX12_laysPlan_74 rfl ?_
              refine E_bp (nI 6) dX12_laysPlan_76 (by decide) ?_
              refine E_cN_ge (a := dd + 1) (b := 6) (tgt := 263) dX12_laysPlan_78 (by omega) (by decide) (by decide) (fun cw78 => ?_) (fun cw78 => absurd cw78 (by omega))
              refine E.mask [true, true, true, true, true, true, false, false] ?_
              exact fin
          · skip
            refine E_iload dX12_laysPlan_74 rfl ?_
            refine E_bp (nI 6) dX12_laysPlan_76 (by decide) ?_
            refine E_cN_ge (a := dd) (b := 6) (tgt := 263) dX12_laysPlan_78 (by omega) (by decide) (by decide) (fun cw78 => absurd cw78 (by omega)) (fun cw78 => ?_)
            refine E_aload_n dX12_laysPlan_81 rfl ?_
            refine E_getI dX12_laysPlan_82 f_X12_360 rfl (Nat.lt_of_lt_of_le (by decide) hN) rfl ?_
            refine E.top (hps) ?_
            refine E_bp (-3) dX12_laysPlan_85 (by decide) ?_
            refine E_icmp_ne (tgt := 263) dX12_laysPlan_87 (by decide) (fun cw87 => by first | exact absurd cw87 (rfl) | exact absurd (rfl) cw87) (fun cw87 => ?_)
            refine E_aload_n dX12_laysPlan_90 rfl ?_
            refine E_iload_n dX12_laysPlan_91 rfl ?_
            refine E_aload_n dX12_laysPlan_92 rfl ?_
            refine E_getR dX12_laysPlan_93 f_X12_84 rfl (Nat.lt_of_lt_of_le (by decide) hN) rfl (hR _ _ _ rfl) ?_
            refine E_iload dX12_laysPlan_96 rfl ?_
            refine E_ialdN dX12_laysPlan_98 rfl (Nat.lt_of_lt_of_le (by decide) hN) (by omega) ?_
            refine E.top ((hP.1 h hlt).trans (congrArg (fun y => nI (rkN y)) hsc)) ?_
            refine E_callV (As := [_, _]) (ci := 11) (kc' := 0) (ks' := 0) (kc := 0) (ks := 0) dX12_laysPlan_99 ok_X12_laysState w_X12_366 i_X12_laysState s_X12_laysState rfl (by decide) rfl (Nat.lt_of_lt_of_le (by decide) hN) rfl rfl rfl (Nat.le_of_ble_eq_true rfl) (Nat.le_of_ble_eq_true rfl) (Nat.le_refl _) (m_laysState (c0 := 0) (LN := LN) (s := s) (Y := Y) hN hR hk hLN hv rfl (fun I2 f2 g2 d2 => ?_))
            refine E_aload_n dX12_laysPlan_102 rfl ?_
            refine E_iload_n dX12_laysPlan_103 rfl ?_
            refine E_ic (nI 0) dX12_laysPlan_104 (by decide) ?_
            refine E_ic (nI 0) dX12_laysPlan_105 (by decide) ?_
            refine E_callV (As := [_, _, _]) (ci := 11) (kc' := 0) (ks' := 0) (kc := 0) (ks := 0) dX12_laysPlan_106 ok_X12_feels w_X12_332 i_X12_feels s_X12_feels rfl (by decide) rfl (Nat.lt_of_lt_of_le (by decide) hN) rfl rfl rfl (Nat.le_of_ble_eq_true rfl) (Nat.le_of_ble_eq_true rfl) (Nat.le_refl _) (m_feels0 (d := d + 4) (i := 0) (w := 0) (D := unD s) hN hR hk hq hLN (hX.keepM (FM.row f2 (by decide))) (unD_ok hv) d2 (fun I3 f3 a3 => ?_))
            refine E_aload_n dX12_laysPlan_109 rfl ?_
            refine E_iload_n dX12_laysPlan_110 rfl ?_
            refine E_iload dX12_laysPlan_111 rfl ?_
            refine E_ic (nI 0) dX12_laysPlan_113 (by decide) ?_
            refine E_callV (As := [_, _, _]) (ci := 11) (kc' := 0) (ks' := 0) (kc := 0) (ks := 0) dX12_laysPlan_114 ok_X12_does w_X12_336 i_X12_does s_X12_does rfl (by decide) rfl (Nat.lt_of_lt_of_le (by decide) hN) rfl rfl rfl (Nat.le_of_ble_eq_true rfl) (Nat.le_of_ble_eq_true rfl) (Nat.le_refl _) (m_doesA0 (d := d) (dd := dd) (i := 0) (w := 0) (c0 := 0) (D := unD s) (by omega) hN hR hk hq hLN (hX.keepM ((FM.row f2 (by decide)).trans (FM.row f3 (by decide)))) (unD_ok hv) ⟨by rw [f3 115 (by decide)]; exact d2.1, fun y => absurd y (by decide)⟩ a3 rfl (fun I4 f4 d4 => ?_))
            have d5 : MDr k 0 0 Y D1 I4 := by rw [← hD1]; exact d4
            refine E_aload_n dX12_laysPlan_117 rfl ?_
            refine E_iload_n dX12_laysPlan_118 rfl ?_
            refine E_callV (As := [_]) (ci := 11) (kc' := 0) (ks' := 0) (kc := 0) (ks := 0) dX12_laysPlan_119 ok_X12_stateOf w_X12_357 i_X12_stateOf s_X12_stateOf rfl (by decide) rfl (Nat.lt_of_lt_of_le (by decide) hN) rfl rfl rfl (Nat.le_of_ble_eq_true rfl) (Nat.le_of_ble_eq_true rfl) (Nat.le_refl _) (m_stateOf (c0 := 0) (Y := Y) (D := D1) hN hR hk d5 ?_)
            refine E.top (congrArg nI hrk) ?_
            refine E_istore dX12_laysPlan_122 (Nat.le_of_ble_eq_true rfl) ?_
            refine E_aload_n dX12_laysPlan_124 rfl ?_
            refine E_getR dX12_laysPlan_125 f_X12_7 rfl (Nat.lt_of_lt_of_le (by decide) hN) rfl (hR _ _ _ rfl) ?_
            refine E_bp (nI 48) dX12_laysPlan_128 (by decide) ?_
            refine E_iload_n dX12_laysPlan_130 rfl ?_
            refine E_iadd dX12_laysPlan_131 ?_
            refine E.top (nI_add 48 k) ?_
            refine E_ialdN dX12_laysPlan_132 rfl (Nat.lt_of_lt_of_le (by decide) hN) (by omega) ?_
            refine E.top (d5.1.2.2.2.2.2) ?_
            refine E_ic (nI 1) dX12_laysPlan_133 (by decide) ?_
            refine E_cN_eq (a := D1 5) (b := 1) (tgt := 257) dX12_laysPlan_134 (by omega) (by decide) (by decide) (fun cw134 => absurd cw134 (by omega)) (fun cw134 => ?_)
            refine E_aload_n dX12_laysPlan_137 rfl ?_
            refine E_getR dX12_laysPlan_138 f_X12_87 rfl (Nat.lt_of_lt_of_le (by decide) hN) rfl (hR _ _ _ rfl) ?_
            refine E_iload dX12_laysPlan_141 rfl ?_
            refine E_baldN dX12_laysPlan_143 rfl (Nat.lt_of_lt_of_le (by decide) hN) (by omega) ?_
            refine E.top (((hP.keep ((f4.1 139 (by decide) (by decide) (by decide) (by decide)).trans ((f3 139 (by decide)).trans (f2 139 (by decide)))) ((f4.1 140 (by decide) (by decide) (by decide) (by decide)).trans ((f3 140 (by decide)).trans (f2 140 (by decide)))) ((f4.1 141 (by decide) (by decide) (by decide) (by decide)).trans ((f3 141 (by decide)).trans (f2 141 (by decide))))).2.1 _ hpk).trans (congrArg nI (if_pos hzz))) ?_
            refine E_zN_eq (a := 0) (tgt := 150) dX12_laysPlan_144 (by omega) (by decide) (fun cw144 => ?_) (fun cw144 => absurd cw144 (by omega))
            refine E_aload_n dX12_laysPlan_150 rfl ?_
            refine E_getR dX12_laysPlan_151 f_X12_87 rfl (Nat.lt_of_lt_of_le (by decide) hN) rfl (hR _ _ _ rfl) ?_
            refine E_iload dX12_laysPlan_154 rfl ?_
            refine E_aload_n dX12_laysPlan_156 rfl ?_
            refine E_getR dX12_laysPlan_157 f_X12_87 rfl (Nat.lt_of_lt_of_le (by decide) hN) rfl (hR _ _ _ rfl) ?_
            refine E_aload_n dX12_laysPlan_160 rfl ?_
            refine E_getR dX12_laysPlan_161 f_X12_84 rfl (Nat.lt_of_lt_of_le (by decide) hN) rfl (hR _ _ _ rfl) ?_
            refine E_iload dX12_laysPlan_164 rfl ?_
            refine E_ialdN dX12_laysPlan_166 rfl (Nat.lt_of_lt_of_le (by decide) hN) (by omega) ?_
            refine E.top (((hP.keep ((f4.1 139 (by decide) (by decide) (by decide) (by decide)).trans ((f3 139 (by decide)).trans (f2 139 (by decide)))) ((f4.1 140 (by decide) (by decide) (by decide) (by decide)).trans ((f3 140 (by decide)).trans (f2 140 (by decide)))) ((f4.1 141 (by decide) (by decide) (by decide) (by decide)).trans ((f3 141 (by decide)).trans (f2 141 (by decide))))).1 h hlt).trans (congrArg (fun y => nI (rkN y)) hsc)) ?_
            refine E_baldN dX12_laysPlan_167 rfl (Nat.lt_of_lt_of_le (by decide) hN) (by omega) ?_
            refine E.top (((hP.keep ((f4.1 139 (by decide) (by decide) (by decide) (by decide)).trans ((f3 139 (by decide)).trans (f2 139 (by decide)))) ((f4.1 140 (by decide) (by decide) (by decide) (by decide)).trans ((f3 140 (by decide)).trans (f2 140 (by decide)))) ((f4.1 141 (by decide) (by decide) (by decide) (by decide)).trans ((f3 141 (by decide)).trans (f2 141 (by decide))))).2.1 _ hv).trans (congrArg nI hst)) ?_
            refine E_ic (nI 1) dX12_laysPlan_168 (by decide) ?_
            refine E_iadd dX12_laysPlan_169 ?_
            refine E.top (nI_add (l + 1) 1) ?_
            refine E_i2b dX12_laysPlan_170 ?_
            refine E.top (by_n (v := l + 1 + 1) (by omega)) ?_
            refine E_bastN dX12_laysPlan_171 rfl (Nat.lt_of_lt_of_le (by decide) hN) (by omega) ?_
            rw [by_n (show l + 2 < 128 by omega)]
            refine E_aload_n dX12_laysPlan_172 rfl ?_
            refine E_getR dX12_laysPlan_173 f_X12_90 rfl (Nat.lt_of_lt_of_le (by decide) hN) rfl (hR _ _ _ rfl) ?_
            refine E_iload dX12_laysPlan_176 rfl ?_
            refine E_iload dX12_laysPlan_178 rfl ?_
            refine E_zN_ne (a := h) (tgt := 189) dX12_laysPlan_180 (by omega) (by decide) (fun cw180 => absurd cw180 (by omega)) (fun cw180 => ?_)
            refine E_iload dX12_laysPlan_183 rfl ?_
            refine E_i2b dX12_laysPlan_185 ?_
            refine E.top ((by_n (v := dd) (by omega)).trans (congrArg nI hfe)) ?_
            refine E_goto (tgt := 201) dX12_laysPlan_186 (by decide) ?_
            refine E_bastN dX12_laysPlan_201 rfl (Nat.lt_of_lt_of_le (by decide) hN) (by omega) ?_
            rw [by_n (show fd < 128 by omega)]
            refine E_aload_n dX12_laysPlan_202 rfl ?_
            refine E_getR dX12_laysPlan_203 f_X12_84 rfl (Nat.lt_of_lt_of_le (by decide) hN) rfl (hR _ _ _ rfl) ?_
            refine E_iload dX12_laysPlan_206 rfl ?_
            refine E_iload dX12_laysPlan_208 rfl ?_
            refine E_iastN dX12_laysPlan_210 rfl (Nat.lt_of_lt_of_le (by decide) hN) (by omega) ?_
            refine E_iload dX12_laysPlan_211 rfl ?_
            refine E_ic (nI 1) dX12_laysPlan_213 (by decide) ?_
            refine E_iadd dX12_laysPlan_214 ?_
            refine E.top (nI_add cnt 1) ?_
            refine E_istore dX12_laysPlan_215 (Nat.le_of_ble_eq_true rfl) ?_
            refine E_aload_n dX12_laysPlan_217 rfl ?_
            refine E_getR dX12_laysPlan_218 f_X12_7 rfl (Nat.lt_of_lt_of_le (by decide) hN) rfl (hR _ _ _ rfl) ?_
            refine E_bp (nI 60) dX12_laysPlan_221 (by decide) ?_
            refine E_iload_n dX12_laysPlan_223 rfl ?_
            refine E_iadd dX12_laysPlan_224 ?_
            refine E.top (nI_add 60 k) ?_
            refine E_ialdN dX12_laysPlan_225 rfl (Nat.lt_of_lt_of_le (by decide) hN) (by omega) ?_
            refine E.top ((congrFun ((up2_o _ 139 _ _ 115 (by decide)).trans ((up2_o _ 141 _ _ 115 (by decide)).trans (up2_o _ 140 _ _ 115 (by decide)))) _).trans d5.1.2.2.2.1) ?_
            refine E_iload_n dX12_laysPlan_226 rfl ?_
            refine E_cN_gt (a := D1 3) (b := T) (tgt := 233) dX12_laysPlan_227 (by omega) (by omega) (by decide) (fun cw227 => absurd cw227 (by omega)) (fun cw227 => ?_)
            refine E_goto (tgt := 257) dX12_laysPlan_230 (by decide) ?_
            refine E_incN dX12_laysPlan_257 rfl ?_
            refine E_goto (tgt := 74) dX12_laysPlan_260 (by decide) ?_
            have xm : XM LN (nt (spP (nxP q k LN Y S) (ouP q k LN Y S T) (brP q k LN Y S) b h dd).1 (pkD D1) (mkP (l + 1) fd)) (up2 (up2 (up2 I4 140 (rkN (pkD D1)) (nI (l + 2))) 141 (rkN (pkD D1)) (nI fd)) 139 cnt (nI (rkN (pkD D1)))) := by rw [hcn]; exact XM_nt (hP.keep ((f4.1 139 (by decide) (by decide) (by decide) (by decide)).trans ((f3 139 (by decide)).trans (f2 139 (by decide)))) ((f4.1 140 (by decide) (by decide) (by decide) (by decide)).trans ((f3 140 (by decide)).trans (f2 140 (by decide)))) ((f4.1 141 (by decide) (by decide) (by decide) (by decide)).trans ((f3 141 (by decide)).trans (f2 141 (by decide))))) hpk hfd8 hzz (fun i hi => hWd.1 i hi)
            have n1 : (nt (spP (nxP q k LN Y S) (ouP q k LN Y S T) (brP q k LN Y S) b h dd).1 (pkD D1) (mkP (l + 1) fd)).1 = cnt + 1 := by rw [nt_t hzz, hcn]
            have e1 : spP (nxP q k LN Y S) (ouP q k LN Y S T) (brP q k LN Y S) b h (dd + 1) = (nt (spP (nxP q k LN Y S) (ouP q k LN Y S T) (brP q k LN Y S) b h dd).1 (pkD D1) (mkP (l + 1) fd), 0) := (spP_n h0 (ho0 (by omega)) (hb0 (by omega))).trans (by rw [hl0, hf0, hs0, hfd, show nxP q k LN Y S s dd = pkD D1 from congrArg pkD hD1])
            refine E.mask [true, true, true, true, true, true, true, false] ?_
            exact ih (dd + 1) (cnt + 1) _ (by omega) (by rw [e1]) (by rw [e1]; exact n1.symm) (by rw [e1]; exact xm) ((congrFun ((up2_o _ 139 _ _ 114 (by decide)).trans ((up2_o _ 141 _ _ 114 (by decide)).trans (up2_o _ 140 _ _ 114 (by decide)))) 46).trans ((f4.2.1 46 (by decide) (by decide)).trans ((congrFun (f3 114 (by decide)) 46).trans ((congrFun (f2 114 (by decide)) 46).trans hps)))) ((congrFun ((up2_o _ 139 _ _ 114 (by decide)).trans ((up2_o _ 141 _ _ 114 (by decide)).trans (up2_o _ 140 _ _ 114 (by decide)))) 47).trans ((f4.2.1 47 (by decide) (by decide)).trans ((congrFun (f3 114 (by decide)) 47).trans ((congrFun (f2 114 (by decide)) 47).trans hpf)))) (hX.keepM ((((FM.row f2 (by decide)).trans (FM.row f3 (by decide))).trans (FM.ofM f4)).trans (((FM.row (up2_o I4 140 (rkN (pkD D1)) (nI (l + 2))) (by decide)).trans (FM.row (up2_o (up2 I4 140 (rkN (pkD D1)) (nI (l + 2))) 141 (rkN (pkD D1)) (nI fd)) (by decide))).trans (FM.row (up2_o (up2 (up2 I4 140 (rkN (pkD D1)) (nI (l + 2))) 141 (rkN (pkD D1)) (nI fd)) 139 cnt (nI (rkN (pkD D1)))) (by decide))))) (fun I5 f5 => hQ0 I5 (((((FM.row f2 (by decide)).trans (FM.row f3 (by decide))).trans (FM.ofM f4)).trans (((FM.row (up2_o I4 140 (rkN (pkD D1)) (nI (l + 2))) (by decide)).trans (FM.row (up2_o (up2 I4 140 (rkN (pkD D1)) (nI (l + 2))) 141 (rkN (pkD D1)) (nI fd)) (by decide))).trans (FM.row (up2_o (up2 (up2 I4 140 (rkN (pkD D1)) (nI (l + 2))) 141 (rkN (pkD D1)) (nI fd)) 139 cnt (nI (rkN (pkD D1)))) (by decide)))).trans f5)) (fun I5 b5 f5 => hQ1 I5 b5 (((((FM.row f2 (by decide)).trans (FM.row f3 (by decide))).trans (FM.ofM f4)).trans (((FM.row (up2_o I4 140 (rkN (pkD D1)) (nI (l + 2))) (by decide)).trans (FM.row (up2_o (up2 I4 140 (rkN (pkD D1)) (nI (l + 2))) 141 (rkN (pkD D1)) (nI fd)) (by decide))).trans (FM.row (up2_o (up2 (up2 I4 140 (rkN (pkD D1)) (nI (l + 2))) 141 (rkN (pkD D1)) (nI fd)) 139 cnt (nI (rkN (pkD D1)))) (by decide)))).trans f5))
        · have hl1 : ¬ ((spP (nxP q k LN Y S) (ouP q k LN Y S T) (brP q k LN Y S) b h dd).1.2.2 s - 1) / 8 = 0 := by rw [hms, hlm]; exact fun y => hz0 (hi0.mpr y)
          have hfe : ((spP (nxP q k LN Y S) (ouP q k LN Y S T) (brP q k LN Y S) b h dd).1.2.2 s - 1) % 8 = fd := by rw [hms, hfm, ← hfd]; exact (if_neg (fun y => hz0 (hi0.mpr y))).symm
          by_cases co : T < D1 3
          · skip
            refine E_iload dX12_laysPlan_74 rfl ?_
            refine E_bp (nI 6) dX12_laysPlan_76 (by decide) ?_
            refine E_cN_ge (a := dd) (b := 6) (tgt := 263) dX12_laysPlan_78 (by omega) (by decide) (by decide) (fun cw78 => absurd cw78 (by omega)) (fun cw78 => ?_)
            refine E_aload_n dX12_laysPlan_81 rfl ?_
            refine E_getI dX12_laysPlan_82 f_X12_360 rfl (Nat.lt_of_lt_of_le (by decide) hN) rfl ?_
            refine E.top (hps) ?_
            refine E_bp (-3) dX12_laysPlan_85 (by decide) ?_
            refine E_icmp_ne (tgt := 263) dX12_laysPlan_87 (by decide) (fun cw87 => by first | exact absurd cw87 (rfl) | exact absurd (rfl) cw87) (fun cw87 => ?_)
            refine E_aload_n dX12_laysPlan_90 rfl ?_
            refine E_iload_n dX12_laysPlan_91 rfl ?_
            refine E_aload_n dX12_laysPlan_92 rfl ?_
            refine E_getR dX12_laysPlan_93 f_X12_84 rfl (Nat.lt_of_lt_of_le (by decide) hN) rfl (hR _ _ _ rfl) ?_
            refine E_iload dX12_laysPlan_96 rfl ?_
            refine E_ialdN dX12_laysPlan_98 rfl (Nat.lt_of_lt_of_le (by decide) hN) (by omega) ?_
            refine E.top ((hP.1 h hlt).trans (congrArg (fun y => nI (rkN y)) hsc)) ?_
            refine E_callV (As := [_, _]) (ci := 11) (kc' := 0) (ks' := 0) (kc := 0) (ks := 0) dX12_laysPlan_99 ok_X12_laysState w_X12_366 i_X12_laysState s_X12_laysState rfl (by decide) rfl (Nat.lt_of_lt_of_le (by decide) hN) rfl rfl rfl (Nat.le_of_ble_eq_true rfl) (Nat.le_of_ble_eq_true rfl) (Nat.le_refl _) (m_laysState (c0 := 0) (LN := LN) (s := s) (Y := Y) hN hR hk hLN hv rfl (fun I2 f2 g2 d2 => ?_))
            refine E_aload_n dX12_laysPlan_102 rfl ?_
            refine E_iload_n dX12_laysPlan_103 rfl ?_
            refine E_ic (nI 0) dX12_laysPlan_104 (by decide) ?_
            refine E_ic (nI 0) dX12_laysPlan_105 (by decide) ?_
            refine E_callV (As := [_, _, _]) (ci := 11) (kc' := 0) (ks' := 0) (kc := 0) (ks := 0) dX12_laysPlan_106 ok_X12_feels w_X12_332 i_X12_feels s_X12_feels rfl (by decide) rfl (Nat.lt_of_lt_of_le (by decide) hN) rfl rfl rfl (Nat.le_of_ble_eq_true rfl) (Nat.le_of_ble_eq_true rfl) (Nat.le_refl _) (m_feels0 (d := d + 4) (i := 0) (w := 0) (D := unD s) hN hR hk hq hLN (hX.keepM (FM.row f2 (by decide))) (unD_ok hv) d2 (fun I3 f3 a3 => ?_))
            refine E_aload_n dX12_laysPlan_109 rfl ?_
            refine E_iload_n dX12_laysPlan_110 rfl ?_
            refine E_iload dX12_laysPlan_111 rfl ?_
            refine E_ic (nI 0) dX12_laysPlan_113 (by decide) ?_
            refine E_callV (As := [_, _, _]) (ci := 11) (kc' := 0) (ks' := 0) (kc := 0) (ks := 0) dX12_laysPlan_114 ok_X12_does w_X12_336 i_X12_does s_X12_does rfl (by decide) rfl (Nat.lt_of_lt_of_le (by decide) hN) rfl rfl rfl (Nat.le_of_ble_eq_true rfl) (Nat.le_of_ble_eq_true rfl) (Nat.le_refl _) (m_doesA0 (d := d) (dd := dd) (i := 0) (w := 0) (c0 := 0) (D := unD s) (by omega) hN hR hk hq hLN (hX.keepM ((FM.row f2 (by decide)).trans (FM.row f3 (by decide)))) (unD_ok hv) ⟨by rw [f3 115 (by decide)]; exact d2.1, fun y => absurd y (by decide)⟩ a3 rfl (fun I4 f4 d4 => ?_))
            have d5 : MDr k 0 0 Y D1 I4 := by rw [← hD1]; exact d4
            refine E_aload_n dX12_laysPlan_117 rfl ?_
            refine E_iload_n dX12_laysPlan_118 rfl ?_
            refine E_callV (As := [_]) (ci := 11) (kc' := 0) (ks' := 0) (kc := 0) (ks := 0) dX12_laysPlan_119 ok_X12_stateOf w_X12_357 i_X12_stateOf s_X12_stateOf rfl (by decide) rfl (Nat.lt_of_lt_of_le (by decide) hN) rfl rfl rfl (Nat.le_of_ble_eq_true rfl) (Nat.le_of_ble_eq_true rfl) (Nat.le_refl _) (m_stateOf (c0 := 0) (Y := Y) (D := D1) hN hR hk d5 ?_)
            refine E.top (congrArg nI hrk) ?_
            refine E_istore dX12_laysPlan_122 (Nat.le_of_ble_eq_true rfl) ?_
            refine E_aload_n dX12_laysPlan_124 rfl ?_
            refine E_getR dX12_laysPlan_125 f_X12_7 rfl (Nat.lt_of_lt_of_le (by decide) hN) rfl (hR _ _ _ rfl) ?_
            refine E_bp (nI 48) dX12_laysPlan_128 (by decide) ?_
            refine E_iload_n dX12_laysPlan_130 rfl ?_
            refine E_iadd dX12_laysPlan_131 ?_
            refine E.top (nI_add 48 k) ?_
            refine E_ialdN dX12_laysPlan_132 rfl (Nat.lt_of_lt_of_le (by decide) hN) (by omega) ?_
            refine E.top (d5.1.2.2.2.2.2) ?_
            refine E_ic (nI 1) dX12_laysPlan_133 (by decide) ?_
            refine E_cN_eq (a := D1 5) (b := 1) (tgt := 257) dX12_laysPlan_134 (by omega) (by decide) (by decide) (fun cw134 => absurd cw134 (by omega)) (fun cw134 => ?_)
            refine E_aload_n dX12_laysPlan_137 rfl ?_
            refine E_getR dX12_laysPlan_138 f_X12_87 rfl (Nat.lt_of_lt_of_le (by decide) hN) rfl (hR _ _ _ rfl) ?_
            refine E_iload dX12_laysPlan_141 rfl ?_
            refine E_baldN dX12_laysPlan_143 rfl (Nat.lt_of_lt_of_le (by decide) hN) (by omega) ?_
            refine E.top (((hP.keep ((f4.1 139 (by decide) (by decide) (by decide) (by decide)).trans ((f3 139 (by decide)).trans (f2 139 (by decide)))) ((f4.1 140 (by decide) (by decide) (by decide) (by decide)).trans ((f3 140 (by decide)).trans (f2 140 (by decide)))) ((f4.1 141 (by decide) (by decide) (by decide) (by decide)).trans ((f3 141 (by decide)).trans (f2 141 (by decide))))).2.1 _ hpk).trans (congrArg nI (if_pos hzz))) ?_
            refine E_zN_eq (a := 0) (tgt := 150) dX12_laysPlan_144 (by omega) (by decide) (fun cw144 => ?_) (fun cw144 => absurd cw144 (by omega))
            refine E_aload_n dX12_laysPlan_150 rfl ?_
            refine E_getR dX12_laysPlan_151 f_X12_87 rfl (Nat.lt_of_lt_of_le (by decide) hN) rfl (hR _ _ _ rfl) ?_
            refine E_iload dX12_laysPlan_154 rfl ?_
            refine E_aload_n dX12_laysPlan_156 rfl ?_
            refine E_getR dX12_laysPlan_157 f_X12_87 rfl (Nat.lt_of_lt_of_le (by decide) hN) rfl (hR _ _ _ rfl) ?_
            refine E_aload_n dX12_laysPlan_160 rfl ?_
            refine E_getR dX12_laysPlan_161 f_X12_84 rfl (Nat.lt_of_lt_of_le (by decide) hN) rfl (hR _ _ _ rfl) ?_
            refine E_iload dX12_laysPlan_164 rfl ?_
            refine E_ialdN dX12_laysPlan_166 rfl (Nat.lt_of_lt_of_le (by decide) hN) (by omega) ?_
            refine E.top (((hP.keep ((f4.1 139 (by decide) (by decide) (by decide) (by decide)).trans ((f3 139 (by decide)).trans (f2 139 (by decide)))) ((f4.1 140 (by decide) (by decide) (by decide) (by decide)).trans ((f3 140 (by decide)).trans (f2 140 (by decide)))) ((f4.1 141 (by decide) (by decide) (by decide) (by decide)).trans ((f3 141 (by decide)).trans (f2 141 (by decide))))).1 h hlt).trans (congrArg (fun y => nI (rkN y)) hsc)) ?_
            refine E_baldN dX12_laysPlan_167 rfl (Nat.lt_of_lt_of_le (by decide) hN) (by omega) ?_
            refine E.top (((hP.keep ((f4.1 139 (by decide) (by decide) (by decide) (by decide)).trans ((f3 139 (by decide)).trans (f2 139 (by decide)))) ((f4.1 140 (by decide) (by decide) (by decide) (by decide)).trans ((f3 140 (by decide)).trans (f2 140 (by decide)))) ((f4.1 141 (by decide) (by decide) (by decide) (by decide)).trans ((f3 141 (by decide)).trans (f2 141 (by decide))))).2.1 _ hv).trans (congrArg nI hst)) ?_
            refine E_ic (nI 1) dX12_laysPlan_168 (by decide) ?_
            refine E_iadd dX12_laysPlan_169 ?_
            refine E.top (nI_add (l + 1) 1) ?_
            refine E_i2b dX12_laysPlan_170 ?_
            refine E.top (by_n (v := l + 1 + 1) (by omega)) ?_
            refine E_bastN dX12_laysPlan_171 rfl (Nat.lt_of_lt_of_le (by decide) hN) (by omega) ?_
            rw [by_n (show l + 2 < 128 by omega)]
            refine E_aload_n dX12_laysPlan_172 rfl ?_
            refine E_getR dX12_laysPlan_173 f_X12_90 rfl (Nat.lt_of_lt_of_le (by decide) hN) rfl (hR _ _ _ rfl) ?_
            refine E_iload dX12_laysPlan_176 rfl ?_
            refine E_iload dX12_laysPlan_178 rfl ?_
            refine E_zN_ne (a := h) (tgt := 189) dX12_laysPlan_180 (by omega) (by decide) (fun cw180 => ?_) (fun cw180 => absurd cw180 (by omega))
            refine E_aload_n dX12_laysPlan_189 rfl ?_
            refine E_getR dX12_laysPlan_190 f_X12_90 rfl (Nat.lt_of_lt_of_le (by decide) hN) rfl (hR _ _ _ rfl) ?_
            refine E_aload_n dX12_laysPlan_193 rfl ?_
            refine E_getR dX12_laysPlan_194 f_X12_84 rfl (Nat.lt_of_lt_of_le (by decide) hN) rfl (hR _ _ _ rfl) ?_
            refine E_iload dX12_laysPlan_197 rfl ?_
            refine E_ialdN dX12_laysPlan_199 rfl (Nat.lt_of_lt_of_le (by decide) hN) (by omega) ?_
            refine E.top (((congrFun (up2_o _ 140 _ _ 139 (by decide)) h).trans ((hP.keep ((f4.1 139 (by decide) (by decide) (by decide) (by decide)).trans ((f3 139 (by decide)).trans (f2 139 (by decide)))) ((f4.1 140 (by decide) (by decide) (by decide) (by decide)).trans ((f3 140 (by decide)).trans (f2 140 (by decide)))) ((f4.1 141 (by decide) (by decide) (by decide) (by decide)).trans ((f3 141 (by decide)).trans (f2 141 (by decide))))).1 h hlt)).trans (congrArg (fun y => nI (rkN y)) hsc)) ?_
            refine E_baldN dX12_laysPlan_200 rfl (Nat.lt_of_lt_of_le (by decide) hN) (by omega) ?_
            refine E.top ((congrFun (up2_o _ 140 _ _ 141 (by decide)) _).trans (((hP.keep ((f4.1 139 (by decide) (by decide) (by decide) (by decide)).trans ((f3 139 (by decide)).trans (f2 139 (by decide)))) ((f4.1 140 (by decide) (by decide) (by decide) (by decide)).trans ((f3 140 (by decide)).trans (f2 140 (by decide)))) ((f4.1 141 (by decide) (by decide) (by decide) (by decide)).trans ((f3 141 (by decide)).trans (f2 141 (by decide))))).2.2.1 _ hv hsm hl1).trans (congrArg nI hfe))) ?_
            refine E_bastN dX12_laysPlan_201 rfl (Nat.lt_of_lt_of_le (by decide) hN) (by omega) ?_
            rw [by_n (show fd < 128 by omega)]
            refine E_aload_n dX12_laysPlan_202 rfl ?_
            refine E_getR dX12_laysPlan_203 f_X12_84 rfl (Nat.lt_of_lt_of_le (by decide) hN) rfl (hR _ _ _ rfl) ?_
            refine E_iload dX12_laysPlan_206 rfl ?_
            refine E_iload dX12_laysPlan_208 rfl ?_
            refine E_iastN dX12_laysPlan_210 rfl (Nat.lt_of_lt_of_le (by decide) hN) (by omega) ?_
            refine E_iload dX12_laysPlan_211 rfl ?_
            refine E_ic (nI 1) dX12_laysPlan_213 (by decide) ?_
            refine E_iadd dX12_laysPlan_214 ?_
            refine E.top (nI_add cnt 1) ?_
            refine E_istore dX12_laysPlan_215 (Nat.le_of_ble_eq_true rfl) ?_
            refine E_aload_n dX12_laysPlan_217 rfl ?_
            refine E_getR dX12_laysPlan_218 f_X12_7 rfl (Nat.lt_of_lt_of_le (by decide) hN) rfl (hR _ _ _ rfl) ?_
            refine E_bp (nI 60) dX12_laysPlan_221 (by decide) ?_
            refine E_iload_n dX12_laysPlan_223 rfl ?_
            refine E_iadd dX12_laysPlan_224 ?_
            refine E.top (nI_add 60 k) ?_
            refine E_ialdN dX12_laysPlan_225 rfl (Nat.lt_of_lt_of_le (by decide) hN) (by omega) ?_
            refine E.top ((congrFun ((up2_o _ 139 _ _ 115 (by decide)).trans ((up2_o _ 141 _ _ 115 (by decide)).trans (up2_o _ 140 _ _ 115 (by decide)))) _).trans d5.1.2.2.2.1) ?_
            refine E_iload_n dX12_laysPlan_226 rfl ?_
            refine E_cN_gt (a := D1 3) (b := T) (tgt := 233) dX12_laysPlan_227 (by omega) (by omega) (by decide) (fun cw227 => ?_) (fun cw227 => absurd cw227 (by omega))
            refine E_aload_n dX12_laysPlan_233 rfl ?_
            refine E_aload_n dX12_laysPlan_234 rfl ?_
            refine E_getR dX12_laysPlan_235 f_X12_87 rfl (Nat.lt_of_lt_of_le (by decide) hN) rfl (hR _ _ _ rfl) ?_
            refine E_iload dX12_laysPlan_238 rfl ?_
            refine E_baldN dX12_laysPlan_240 rfl (Nat.lt_of_lt_of_le (by decide) hN) (by omega) ?_
            refine E.top ((congrFun ((up2_o _ 139 _ _ 140 (by decide)).trans (up2_o _ 141 _ _ 140 (by decide))) _).trans (up2_s _ _ _ _)) ?_
            refine E_ic (nI 1) dX12_laysPlan_241 (by decide) ?_
            refine E_isub dX12_laysPlan_242 ?_
            refine E.top (pk_sub (a := l + 2) (b := 1) (by omega)) ?_
            refine E_putI dX12_laysPlan_243 f_X12_360 rfl (Nat.lt_of_lt_of_le (by decide) hN) rfl ?_
            refine E_aload_n dX12_laysPlan_246 rfl ?_
            refine E_aload_n dX12_laysPlan_247 rfl ?_
            refine E_getR dX12_laysPlan_248 f_X12_90 rfl (Nat.lt_of_lt_of_le (by decide) hN) rfl (hR _ _ _ rfl) ?_
            refine E_iload dX12_laysPlan_251 rfl ?_
            refine E_baldN dX12_laysPlan_253 rfl (Nat.lt_of_lt_of_le (by decide) hN) (by omega) ?_
            refine E.top ((congrFun ((up2_o _ 114 _ _ 141 (by decide)).trans (up2_o _ 139 _ _ 141 (by decide))) _).trans (up2_s _ _ _ _)) ?_
            refine E_putI dX12_laysPlan_254 f_X12_363 rfl (Nat.lt_of_lt_of_le (by decide) hN) rfl ?_
            refine E_incN dX12_laysPlan_257 rfl ?_
            refine E_goto (tgt := 74) dX12_laysPlan_260 (by decide) ?_
            have xm : XM LN (nt (spP (nxP q k LN Y S) (ouP q k LN Y S T) (brP q k LN Y S) b h dd).1 (pkD D1) (mkP (l + 1) fd)) (up2 (up2 (up2 I4 140 (rkN (pkD D1)) (nI (l + 2))) 141 (rkN (pkD D1)) (nI fd)) 139 cnt (nI (rkN (pkD D1)))) := by rw [hcn]; exact XM_nt (hP.keep ((f4.1 139 (by decide) (by decide) (by decide) (by decide)).trans ((f3 139 (by decide)).trans (f2 139 (by decide)))) ((f4.1 140 (by decide) (by decide) (by decide) (by decide)).trans ((f3 140 (by decide)).trans (f2 140 (by decide)))) ((f4.1 141 (by decide) (by decide) (by decide) (by decide)).trans ((f3 141 (by decide)).trans (f2 141 (by decide))))) hpk hfd8 hzz (fun i hi => hWd.1 i hi)
            have n1 : (nt (spP (nxP q k LN Y S) (ouP q k LN Y S T) (brP q k LN Y S) b h dd).1 (pkD D1) (mkP (l + 1) fd)).1 = cnt + 1 := by rw [nt_t hzz, hcn]
            have e1 : spP (nxP q k LN Y S) (ouP q k LN Y S T) (brP q k LN Y S) b h (dd + 1) = ((spP (nxP q k LN Y S) (ouP q k LN Y S T) (brP q k LN Y S) b h dd).1, mkP (l + 1) fd) := (spP_o h0 (ho1 (by omega))).trans (by rw [hl0, hf0, hfd])
            have e6 : spP (nxP q k LN Y S) (ouP q k LN Y S T) (brP q k LN Y S) b h 6 = ((spP (nxP q k LN Y S) (ouP q k LN Y S T) (brP q k LN Y S) b h dd).1, mkP (l + 1) fd) := by
              rw [show 6 = dd + 1 + e by omega, spP_stay (by rw [e1]; unfold mkP; omega) e, e1]
            have fin := hQ1 (up2 (up2 (up2 (up2 (up2 I4 140 (rkN (pkD D1)) (nI (l + 2))) 141 (rkN (pkD D1)) (nI fd)) 139 cnt (nI (rkN (pkD D1)))) 114 46 (nI (l + 2 - 1))) 114 47 (nI fd)) (nt (spP (nxP q k LN Y S) (ouP q k LN Y S T) (brP q k LN Y S) b h dd).1 (pkD D1) (mkP (l + 1) fd)) (((((FM.row f2 (by decide)).trans (FM.row f3 (by decide))).trans (FM.ofM f4)).trans (((FM.row (up2_o I4 140 (rkN (pkD D1)) (nI (l + 2))) (by decide)).trans (FM.row (up2_o (up2 I4 140 (rkN (pkD D1)) (nI (l + 2))) 141 (rkN (pkD D1)) (nI fd)) (by decide))).trans (FM.row (up2_o (up2 (up2 I4 140 (rkN (pkD D1)) (nI (l + 2))) 141 (rkN (pkD D1)) (nI fd)) 139 cnt (nI (rkN (pkD D1)))) (by decide)))).trans ((FM.up (up2 (up2 (up2 I4 140 (rkN (pkD D1)) (nI (l + 2))) 141 (rkN (pkD D1)) (nI fd)) 139 cnt (nI (rkN (pkD D1)))) (nI (l + 2 - 1)) (by decide)).trans (FM.up (up2 (up2 (up2 (up2 I4 140 (rkN (pkD D1)) (nI (l + 2))) 141 (rkN (pkD D1)) (nI fd)) 139 cnt (nI (rkN (pkD D1)))) 114 46 (nI (l + 2 - 1))) (nI fd) (by decide)))) (by rw [e6]; unfold mkP; omega) (xm.keep ((up2_o _ 114 _ _ 139 (by decide)).trans (up2_o _ 114 _ _ 139 (by decide))) ((up2_o _ 114 _ _ 140 (by decide)).trans (up2_o _ 114 _ _ 140 (by decide))) ((up2_o _ 114 _ _ 141 (by decide)).trans (up2_o _ 114 _ _ 141 (by decide)))) (fun i hi => ((ntP hWd hpk hpk.1 (by unfold mkP; omega)).1.1 i hi).1) (by rw [n1]; omega) (by rw [e6]; exact (up2_k _ _ (by decide)).trans ((up2_s _ _ _ _).trans (congrArg nI (by unfold mkP; omega)))) (by rw [e6]; exact (up2_s _ _ _ _).trans (congrArg nI (by unfold mkP; omega)))
            rw [n1] at fin
            by_cases d6 : dd + 1 < 6
            · skip
              refine E_iload dX12_laysPlan_74 rfl ?_
              refine E_bp (nI 6) dX12_laysPlan_76 (by decide) ?_
              refine E_cN_ge (a := dd + 1) (b := 6) (tgt := 263) dX12_laysPlan_78 (by omega) (by decide) (by decide) (fun cw78 => absurd cw78 (by omega)) (fun cw78 => ?_)
              refine E_aload_n dX12_laysPlan_81 rfl ?_
              refine E_getI dX12_laysPlan_82 f_X12_360 rfl (Nat.lt_of_lt_of_le (by decide) hN) rfl ?_
              refine E.top ((up2_k _ _ (by decide)).trans (up2_s _ _ _ _)) ?_
              refine E_bp (-3) dX12_laysPlan_85 (by decide) ?_
              refine E_icmp_ne (tgt := 263) dX12_laysPlan_87 (by decide) (fun cw87 => ?_) (fun cw87 => by first | exact absurd cw87 (nI_n3 (by omega)) | exact absurd (nI_n3 (by omega)) cw87)
              refine E.mask [true, true, true, true, true, true, false, false] ?_
              exact fin
            · skip
              refine E_iload dX12_laysPlan_74 rfl ?_
              refine E_bp (nI 6) dX12_laysPlan_76 (by decide) ?_
              refine E_cN_ge (a := dd + 1) (b := 6) (tgt := 263) dX12_laysPlan_78 (by omega) (by decide) (by decide) (fun cw78 => ?_) (fun cw78 => absurd cw78 (by omega))
              refine E.mask [true, true, true, true, true, true, false, false] ?_
              exact fin
          · skip
            refine E_iload dX12_laysPlan_74 rfl ?_
            refine E_bp (nI 6) dX12_laysPlan_76 (by decide) ?_
            refine E_cN_ge (a := dd) (b := 6) (tgt := 263) dX12_laysPlan_78 (by omega) (by decide) (by decide) (fun cw78 => absurd cw78 (by omega)) (fun cw78 => ?_)
            refine E_aload_n dX12_laysPlan_81 rfl ?_
            refine E_getI dX12_laysPlan_82 f_X12_360 rfl (Nat.lt_of_lt_of_le (by decide) hN) rfl ?_
            refine E.top (hps) ?_
            refine E_bp (-3) dX12_laysPlan_85 (by decide) ?_
            refine E_icmp_ne (tgt := 263) dX12_laysPlan_87 (by decide) (fun cw87 => by first | exact absurd cw87 (rfl) | exact absurd (rfl) cw87) (fun cw87 => ?_)
            refine E_aload_n dX12_laysPlan_90 rfl ?_
            refine E_iload_n dX12_laysPlan_91 rfl ?_
            refine E_aload_n dX12_laysPlan_92 rfl ?_
            refine E_getR dX12_laysPlan_93 f_X12_84 rfl (Nat.lt_of_lt_of_le (by decide) hN) rfl (hR _ _ _ rfl) ?_
            refine E_iload dX12_laysPlan_96 rfl ?_
            refine E_ialdN dX12_laysPlan_98 rfl (Nat.lt_of_lt_of_le (by decide) hN) (by omega) ?_
            refine E.top ((hP.1 h hlt).trans (congrArg (fun y => nI (rkN y)) hsc)) ?_
            refine E_callV (As := [_, _]) (ci := 11) (kc' := 0) (ks' := 0) (kc := 0) (ks := 0) dX12_laysPlan_99 ok_X12_laysState w_X12_366 i_X12_laysState s_X12_laysState rfl (by decide) rfl (Nat.lt_of_lt_of_le (by decide) hN) rfl rfl rfl (Nat.le_of_ble_eq_true rfl) (Nat.le_of_ble_eq_true rfl) (Nat.le_refl _) (m_laysState (c0 := 0) (LN := LN) (s := s) (Y := Y) hN hR hk hLN hv rfl (fun I2 f2 g2 d2 => ?_))
            refine E_aload_n dX12_laysPlan_102 rfl ?_
            refine E_iload_n dX12_laysPlan_103 rfl ?_
            refine E_ic (nI 0) dX12_laysPlan_104 (by decide) ?_
            refine E_ic (nI 0) dX12_laysPlan_105 (by decide) ?_
            refine E_callV (As := [_, _, _]) (ci := 11) (kc' := 0) (ks' := 0) (kc := 0) (ks := 0) dX12_laysPlan_106 ok_X12_feels w_X12_332 i_X12_feels s_X12_feels rfl (by decide) rfl (Nat.lt_of_lt_of_le (by decide) hN) rfl rfl rfl (Nat.le_of_ble_eq_true rfl) (Nat.le_of_ble_eq_true rfl) (Nat.le_refl _) (m_feels0 (d := d + 4) (i := 0) (w := 0) (D := unD s) hN hR hk hq hLN (hX.keepM (FM.row f2 (by decide))) (unD_ok hv) d2 (fun I3 f3 a3 => ?_))
            refine E_aload_n dX12_laysPlan_109 rfl ?_
            refine E_iload_n dX12_laysPlan_110 rfl ?_
            refine E_iload dX12_laysPlan_111 rfl ?_
            refine E_ic (nI 0) dX12_laysPlan_113 (by decide) ?_
            refine E_callV (As := [_, _, _]) (ci := 11) (kc' := 0) (ks' := 0) (kc := 0) (ks := 0) dX12_laysPlan_114 ok_X12_does w_X12_336 i_X12_does s_X12_does rfl (by decide) rfl (Nat.lt_of_lt_of_le (by decide) hN) rfl rfl rfl (Nat.le_of_ble_eq_true rfl) (Nat.le_of_ble_eq_true rfl) (Nat.le_refl _) (m_doesA0 (d := d) (dd := dd) (i := 0) (w := 0) (c0 := 0) (D := unD s) (by omega) hN hR hk hq hLN (hX.keepM ((FM.row f2 (by decide)).trans (FM.row f3 (by decide)))) (unD_ok hv) ⟨by rw [f3 115 (by decide)]; exact d2.1, fun y => absurd y (by decide)⟩ a3 rfl (fun I4 f4 d4 => ?_))
            have d5 : MDr k 0 0 Y D1 I4 := by rw [← hD1]; exact d4
            refine E_aload_n dX12_laysPlan_117 rfl ?_
            refine E_iload_n dX12_laysPlan_118 rfl ?_
            refine E_callV (As := [_]) (ci := 11) (kc' := 0) (ks' := 0) (kc := 0) (ks := 0) dX12_laysPlan_119 ok_X12_stateOf w_X12_357 i_X12_stateOf s_X12_stateOf rfl (by decide) rfl (Nat.lt_of_lt_of_le (by decide) hN) rfl rfl rfl (Nat.le_of_ble_eq_true rfl) (Nat.le_of_ble_eq_true rfl) (Nat.le_refl _) (m_stateOf (c0 := 0) (Y := Y) (D := D1) hN hR hk d5 ?_)
            refine E.top (congrArg nI hrk) ?_
            refine E_istore dX12_laysPlan_122 (Nat.le_of_ble_eq_true rfl) ?_
            refine E_aload_n dX12_laysPlan_124 rfl ?_
            refine E_getR dX12_laysPlan_125 f_X12_7 rfl (Nat.lt_of_lt_of_le (by decide) hN) rfl (hR _ _ _ rfl) ?_
            refine E_bp (nI 48) dX12_laysPlan_128 (by decide) ?_
            refine E_iload_n dX12_laysPlan_130 rfl ?_
            refine E_iadd dX12_laysPlan_131 ?_
            refine E.top (nI_add 48 k) ?_
            refine E_ialdN dX12_laysPlan_132 rfl (Nat.lt_of_lt_of_le (by decide) hN) (by omega) ?_
            refine E.top (d5.1.2.2.2.2.2) ?_
            refine E_ic (nI 1) dX12_laysPlan_133 (by decide) ?_
            refine E_cN_eq (a := D1 5) (b := 1) (tgt := 257) dX12_laysPlan_134 (by omega) (by decide) (by decide) (fun cw134 => absurd cw134 (by omega)) (fun cw134 => ?_)
            refine E_aload_n dX12_laysPlan_137 rfl ?_
            refine E_getR dX12_laysPlan_138 f_X12_87 rfl (Nat.lt_of_lt_of_le (by decide) hN) rfl (hR _ _ _ rfl) ?_
            refine E_iload dX12_laysPlan_141 rfl ?_
            refine E_baldN dX12_laysPlan_143 rfl (Nat.lt_of_lt_of_le (by decide) hN) (by omega) ?_
            refine E.top (((hP.keep ((f4.1 139 (by decide) (by decide) (by decide) (by decide)).trans ((f3 139 (by decide)).trans (f2 139 (by decide)))) ((f4.1 140 (by decide) (by decide) (by decide) (by decide)).trans ((f3 140 (by decide)).trans (f2 140 (by decide)))) ((f4.1 141 (by decide) (by decide) (by decide) (by decide)).trans ((f3 141 (by decide)).trans (f2 141 (by decide))))).2.1 _ hpk).trans (congrArg nI (if_pos hzz))) ?_
            refine E_zN_eq (a := 0) (tgt := 150) dX12_laysPlan_144 (by omega) (by decide) (fun cw144 => ?_) (fun cw144 => absurd cw144 (by omega))
            refine E_aload_n dX12_laysPlan_150 rfl ?_
            refine E_getR dX12_laysPlan_151 f_X12_87 rfl (Nat.lt_of_lt_of_le (by decide) hN) rfl (hR _ _ _ rfl) ?_
            refine E_iload dX12_laysPlan_154 rfl ?_
            refine E_aload_n dX12_laysPlan_156 rfl ?_
            refine E_getR dX12_laysPlan_157 f_X12_87 rfl (Nat.lt_of_lt_of_le (by decide) hN) rfl (hR _ _ _ rfl) ?_
            refine E_aload_n dX12_laysPlan_160 rfl ?_
            refine E_getR dX12_laysPlan_161 f_X12_84 rfl (Nat.lt_of_lt_of_le (by decide) hN) rfl (hR _ _ _ rfl) ?_
            refine E_iload dX12_laysPlan_164 rfl ?_
            refine E_ialdN dX12_laysPlan_166 rfl (Nat.lt_of_lt_of_le (by decide) hN) (by omega) ?_
            refine E.top (((hP.keep ((f4.1 139 (by decide) (by decide) (by decide) (by decide)).trans ((f3 139 (by decide)).trans (f2 139 (by decide)))) ((f4.1 140 (by decide) (by decide) (by decide) (by decide)).trans ((f3 140 (by decide)).trans (f2 140 (by decide)))) ((f4.1 141 (by decide) (by decide) (by decide) (by decide)).trans ((f3 141 (by decide)).trans (f2 141 (by decide))))).1 h hlt).trans (congrArg (fun y => nI (rkN y)) hsc)) ?_
            refine E_baldN dX12_laysPlan_167 rfl (Nat.lt_of_lt_of_le (by decide) hN) (by omega) ?_
            refine E.top (((hP.keep ((f4.1 139 (by decide) (by decide) (by decide) (by decide)).trans ((f3 139 (by decide)).trans (f2 139 (by decide)))) ((f4.1 140 (by decide) (by decide) (by decide) (by decide)).trans ((f3 140 (by decide)).trans (f2 140 (by decide)))) ((f4.1 141 (by decide) (by decide) (by decide) (by decide)).trans ((f3 141 (by decide)).trans (f2 141 (by decide))))).2.1 _ hv).trans (congrArg nI hst)) ?_
            refine E_ic (nI 1) dX12_laysPlan_168 (by decide) ?_
            refine E_iadd dX12_laysPlan_169 ?_
            refine E.top (nI_add (l + 1) 1) ?_
            refine E_i2b dX12_laysPlan_170 ?_
            refine E.top (by_n (v := l + 1 + 1) (by omega)) ?_
            refine E_bastN dX12_laysPlan_171 rfl (Nat.lt_of_lt_of_le (by decide) hN) (by omega) ?_
            rw [by_n (show l + 2 < 128 by omega)]
            refine E_aload_n dX12_laysPlan_172 rfl ?_
            refine E_getR dX12_laysPlan_173 f_X12_90 rfl (Nat.lt_of_lt_of_le (by decide) hN) rfl (hR _ _ _ rfl) ?_
            refine E_iload dX12_laysPlan_176 rfl ?_
            refine E_iload dX12_laysPlan_178 rfl ?_
            refine E_zN_ne (a := h) (tgt := 189) dX12_laysPlan_180 (by omega) (by decide) (fun cw180 => ?_) (fun cw180 => absurd cw180 (by omega))
            refine E_aload_n dX12_laysPlan_189 rfl ?_
            refine E_getR dX12_laysPlan_190 f_X12_90 rfl (Nat.lt_of_lt_of_le (by decide) hN) rfl (hR _ _ _ rfl) ?_
            refine E_aload_n dX12_laysPlan_193 rfl ?_
            refine E_getR dX12_laysPlan_194 f_X12_84 rfl (Nat.lt_of_lt_of_le (by decide) hN) rfl (hR _ _ _ rfl) ?_
            refine E_iload dX12_laysPlan_197 rfl ?_
            refine E_ialdN dX12_laysPlan_199 rfl (Nat.lt_of_lt_of_le (by decide) hN) (by omega) ?_
            refine E.top (((congrFun (up2_o _ 140 _ _ 139 (by decide)) h).trans ((hP.keep ((f4.1 139 (by decide) (by decide) (by decide) (by decide)).trans ((f3 139 (by decide)).trans (f2 139 (by decide)))) ((f4.1 140 (by decide) (by decide) (by decide) (by decide)).trans ((f3 140 (by decide)).trans (f2 140 (by decide)))) ((f4.1 141 (by decide) (by decide) (by decide) (by decide)).trans ((f3 141 (by decide)).trans (f2 141 (by decide))))).1 h hlt)).trans (congrArg (fun y => nI (rkN y)) hsc)) ?_
            refine E_baldN dX12_laysPlan_200 rfl (Nat.lt_of_lt_of_le (by decide) hN) (by omega) ?_
            refine E.top ((congrFun (up2_o _ 140 _ _ 141 (by decide)) _).trans (((hP.keep ((f4.1 139 (by decide) (by decide) (by decide) (by decide)).trans ((f3 139 (by decide)).trans (f2 139 (by decide)))) ((f4.1 140 (by decide) (by decide) (by decide) (by decide)).trans ((f3 140 (by decide)).trans (f2 140 (by decide)))) ((f4.1 141 (by decide) (by decide) (by decide) (by decide)).trans ((f3 141 (by decide)).trans (f2 141 (by decide))))).2.2.1 _ hv hsm hl1).trans (congrArg nI hfe))) ?_
            refine E_bastN dX12_laysPlan_201 rfl (Nat.lt_of_lt_of_le (by decide) hN) (by omega) ?_
            rw [by_n (show fd < 128 by omega)]
            refine E_aload_n dX12_laysPlan_202 rfl ?_
            refine E_getR dX12_laysPlan_203 f_X12_84 rfl (Nat.lt_of_lt_of_le (by decide) hN) rfl (hR _ _ _ rfl) ?_
            refine E_iload dX12_laysPlan_206 rfl ?_
            refine E_iload dX12_laysPlan_208 rfl ?_
            refine E_iastN dX12_laysPlan_210 rfl (Nat.lt_of_lt_of_le (by decide) hN) (by omega) ?_
            refine E_iload dX12_laysPlan_211 rfl ?_
            refine E_ic (nI 1) dX12_laysPlan_213 (by decide) ?_
            refine E_iadd dX12_laysPlan_214 ?_
            refine E.top (nI_add cnt 1) ?_
            refine E_istore dX12_laysPlan_215 (Nat.le_of_ble_eq_true rfl) ?_
            refine E_aload_n dX12_laysPlan_217 rfl ?_
            refine E_getR dX12_laysPlan_218 f_X12_7 rfl (Nat.lt_of_lt_of_le (by decide) hN) rfl (hR _ _ _ rfl) ?_
            refine E_bp (nI 60) dX12_laysPlan_221 (by decide) ?_
            refine E_iload_n dX12_laysPlan_223 rfl ?_
            refine E_iadd dX12_laysPlan_224 ?_
            refine E.top (nI_add 60 k) ?_
            refine E_ialdN dX12_laysPlan_225 rfl (Nat.lt_of_lt_of_le (by decide) hN) (by omega) ?_
            refine E.top ((congrFun ((up2_o _ 139 _ _ 115 (by decide)).trans ((up2_o _ 141 _ _ 115 (by decide)).trans (up2_o _ 140 _ _ 115 (by decide)))) _).trans d5.1.2.2.2.1) ?_
            refine E_iload_n dX12_laysPlan_226 rfl ?_
            refine E_cN_gt (a := D1 3) (b := T) (tgt := 233) dX12_laysPlan_227 (by omega) (by omega) (by decide) (fun cw227 => absurd cw227 (by omega)) (fun cw227 => ?_)
            refine E_goto (tgt := 257) dX12_laysPlan_230 (by decide) ?_
            refine E_incN dX12_laysPlan_257 rfl ?_
            refine E_goto (tgt := 74) dX12_laysPlan_260 (by decide) ?_
            have xm : XM LN (nt (spP (nxP q k LN Y S) (ouP q k LN Y S T) (brP q k LN Y S) b h dd).1 (pkD D1) (mkP (l + 1) fd)) (up2 (up2 (up2 I4 140 (rkN (pkD D1)) (nI (l + 2))) 141 (rkN (pkD D1)) (nI fd)) 139 cnt (nI (rkN (pkD D1)))) := by rw [hcn]; exact XM_nt (hP.keep ((f4.1 139 (by decide) (by decide) (by decide) (by decide)).trans ((f3 139 (by decide)).trans (f2 139 (by decide)))) ((f4.1 140 (by decide) (by decide) (by decide) (by decide)).trans ((f3 140 (by decide)).trans (f2 140 (by decide)))) ((f4.1 141 (by decide) (by decide) (by decide) (by decide)).trans ((f3 141 (by decide)).trans (f2 141 (by decide))))) hpk hfd8 hzz (fun i hi => hWd.1 i hi)
            have n1 : (nt (spP (nxP q k LN Y S) (ouP q k LN Y S T) (brP q k LN Y S) b h dd).1 (pkD D1) (mkP (l + 1) fd)).1 = cnt + 1 := by rw [nt_t hzz, hcn]
            have e1 : spP (nxP q k LN Y S) (ouP q k LN Y S T) (brP q k LN Y S) b h (dd + 1) = (nt (spP (nxP q k LN Y S) (ouP q k LN Y S T) (brP q k LN Y S) b h dd).1 (pkD D1) (mkP (l + 1) fd), 0) := (spP_n h0 (ho0 (by omega)) (hb0 (by omega))).trans (by rw [hl0, hf0, hs0, hfd, show nxP q k LN Y S s dd = pkD D1 from congrArg pkD hD1])
            refine E.mask [true, true, true, true, true, true, true, false] ?_
            exact ih (dd + 1) (cnt + 1) _ (by omega) (by rw [e1]) (by rw [e1]; exact n1.symm) (by rw [e1]; exact xm) ((congrFun ((up2_o _ 139 _ _ 114 (by decide)).trans ((up2_o _ 141 _ _ 114 (by decide)).trans (up2_o _ 140 _ _ 114 (by decide)))) 46).trans ((f4.2.1 46 (by decide) (by decide)).trans ((congrFun (f3 114 (by decide)) 46).trans ((congrFun (f2 114 (by decide)) 46).trans hps)))) ((congrFun ((up2_o _ 139 _ _ 114 (by decide)).trans ((up2_o _ 141 _ _ 114 (by decide)).trans (up2_o _ 140 _ _ 114 (by decide)))) 47).trans ((f4.2.1 47 (by decide) (by decide)).trans ((congrFun (f3 114 (by decide)) 47).trans ((congrFun (f2 114 (by decide)) 47).trans hpf)))) (hX.keepM ((((FM.row f2 (by decide)).trans (FM.row f3 (by decide))).trans (FM.ofM f4)).trans (((FM.row (up2_o I4 140 (rkN (pkD D1)) (nI (l + 2))) (by decide)).trans (FM.row (up2_o (up2 I4 140 (rkN (pkD D1)) (nI (l + 2))) 141 (rkN (pkD D1)) (nI fd)) (by decide))).trans (FM.row (up2_o (up2 (up2 I4 140 (rkN (pkD D1)) (nI (l + 2))) 141 (rkN (pkD D1)) (nI fd)) 139 cnt (nI (rkN (pkD D1)))) (by decide))))) (fun I5 f5 => hQ0 I5 (((((FM.row f2 (by decide)).trans (FM.row f3 (by decide))).trans (FM.ofM f4)).trans (((FM.row (up2_o I4 140 (rkN (pkD D1)) (nI (l + 2))) (by decide)).trans (FM.row (up2_o (up2 I4 140 (rkN (pkD D1)) (nI (l + 2))) 141 (rkN (pkD D1)) (nI fd)) (by decide))).trans (FM.row (up2_o (up2 (up2 I4 140 (rkN (pkD D1)) (nI (l + 2))) 141 (rkN (pkD D1)) (nI fd)) 139 cnt (nI (rkN (pkD D1)))) (by decide)))).trans f5)) (fun I5 b5 f5 => hQ1 I5 b5 (((((FM.row f2 (by decide)).trans (FM.row f3 (by decide))).trans (FM.ofM f4)).trans (((FM.row (up2_o I4 140 (rkN (pkD D1)) (nI (l + 2))) (by decide)).trans (FM.row (up2_o (up2 I4 140 (rkN (pkD D1)) (nI (l + 2))) 141 (rkN (pkD D1)) (nI fd)) (by decide))).trans (FM.row (up2_o (up2 (up2 I4 140 (rkN (pkD D1)) (nI (l + 2))) 141 (rkN (pkD D1)) (nI fd)) 139 cnt (nI (rkN (pkD D1)))) (by decide)))).trans f5))
      · have hno : ¬ T < D1 3 := fun y => by have := (hZd _ hzz).2; rw [pk_out oD1 cb] at this; omega
        have hzm := spP_bd (nx := nxP q k LN Y S) (ou := ouP q k LN Y S T) (br := brP q k LN Y S) (h := h) hbd (by rw [hl0]; exact hl) dd (by omega) (pkD D1)
        refine E_iload dX12_laysPlan_74 rfl ?_
        refine E_bp (nI 6) dX12_laysPlan_76 (by decide) ?_
        refine E_cN_ge (a := dd) (b := 6) (tgt := 263) dX12_laysPlan_78 (by omega) (by decide) (by decide) (fun cw78 => absurd cw78 (by omega)) (fun cw78 => ?_)
        refine E_aload_n dX12_laysPlan_81 rfl ?_
        refine E_getI dX12_laysPlan_82 f_X12_360 rfl (Nat.lt_of_lt_of_le (by decide) hN) rfl ?_
        refine E.top (hps) ?_
        refine E_bp (-3) dX12_laysPlan_85 (by decide) ?_
        refine E_icmp_ne (tgt := 263) dX12_laysPlan_87 (by decide) (fun cw87 => by first | exact absurd cw87 (rfl) | exact absurd (rfl) cw87) (fun cw87 => ?_)
        refine E_aload_n dX12_laysPlan_90 rfl ?_
        refine E_iload_n dX12_laysPlan_91 rfl ?_
        refine E_aload_n dX12_laysPlan_92 rfl ?_
        refine E_getR dX12_laysPlan_93 f_X12_84 rfl (Nat.lt_of_lt_of_le (by decide) hN) rfl (hR _ _ _ rfl) ?_
        refine E_iload dX12_laysPlan_96 rfl ?_
        refine E_ialdN dX12_laysPlan_98 rfl (Nat.lt_of_lt_of_le (by decide) hN) (by omega) ?_
        refine E.top ((hP.1 h hlt).trans (congrArg (fun y => nI (rkN y)) hsc)) ?_
        refine E_callV (As := [_, _]) (ci := 11) (kc' := 0) (ks' := 0) (kc := 0) (ks := 0) dX12_laysPlan_99 ok_X12_laysState w_X12_366 i_X12_laysState s_X12_laysState rfl (by decide) rfl (Nat.lt_of_lt_of_le (by decide) hN) rfl rfl rfl (Nat.le_of_ble_eq_true rfl) (Nat.le_of_ble_eq_true rfl) (Nat.le_refl _) (m_laysState (c0 := 0) (LN := LN) (s := s) (Y := Y) hN hR hk hLN hv rfl (fun I2 f2 g2 d2 => ?_))
        refine E_aload_n dX12_laysPlan_102 rfl ?_
        refine E_iload_n dX12_laysPlan_103 rfl ?_
        refine E_ic (nI 0) dX12_laysPlan_104 (by decide) ?_
        refine E_ic (nI 0) dX12_laysPlan_105 (by decide) ?_
        refine E_callV (As := [_, _, _]) (ci := 11) (kc' := 0) (ks' := 0) (kc := 0) (ks := 0) dX12_laysPlan_106 ok_X12_feels w_X12_332 i_X12_feels s_X12_feels rfl (by decide) rfl (Nat.lt_of_lt_of_le (by decide) hN) rfl rfl rfl (Nat.le_of_ble_eq_true rfl) (Nat.le_of_ble_eq_true rfl) (Nat.le_refl _) (m_feels0 (d := d + 4) (i := 0) (w := 0) (D := unD s) hN hR hk hq hLN (hX.keepM (FM.row f2 (by decide))) (unD_ok hv) d2 (fun I3 f3 a3 => ?_))
        refine E_aload_n dX12_laysPlan_109 rfl ?_
        refine E_iload_n dX12_laysPlan_110 rfl ?_
        refine E_iload dX12_laysPlan_111 rfl ?_
        refine E_ic (nI 0) dX12_laysPlan_113 (by decide) ?_
        refine E_callV (As := [_, _, _]) (ci := 11) (kc' := 0) (ks' := 0) (kc := 0) (ks := 0) dX12_laysPlan_114 ok_X12_does w_X12_336 i_X12_does s_X12_does rfl (by decide) rfl (Nat.lt_of_lt_of_le (by decide) hN) rfl rfl rfl (Nat.le_of_ble_eq_true rfl) (Nat.le_of_ble_eq_true rfl) (Nat.le_refl _) (m_doesA0 (d := d) (dd := dd) (i := 0) (w := 0) (c0 := 0) (D := unD s) (by omega) hN hR hk hq hLN (hX.keepM ((FM.row f2 (by decide)).trans (FM.row f3 (by decide)))) (unD_ok hv) ⟨by rw [f3 115 (by decide)]; exact d2.1, fun y => absurd y (by decide)⟩ a3 rfl (fun I4 f4 d4 => ?_))
        have d5 : MDr k 0 0 Y D1 I4 := by rw [← hD1]; exact d4
        refine E_aload_n dX12_laysPlan_117 rfl ?_
        refine E_iload_n dX12_laysPlan_118 rfl ?_
        refine E_callV (As := [_]) (ci := 11) (kc' := 0) (ks' := 0) (kc := 0) (ks := 0) dX12_laysPlan_119 ok_X12_stateOf w_X12_357 i_X12_stateOf s_X12_stateOf rfl (by decide) rfl (Nat.lt_of_lt_of_le (by decide) hN) rfl rfl rfl (Nat.le_of_ble_eq_true rfl) (Nat.le_of_ble_eq_true rfl) (Nat.le_refl _) (m_stateOf (c0 := 0) (Y := Y) (D := D1) hN hR hk d5 ?_)
        refine E.top (congrArg nI hrk) ?_
        refine E_istore dX12_laysPlan_122 (Nat.le_of_ble_eq_true rfl) ?_
        refine E_aload_n dX12_laysPlan_124 rfl ?_
        refine E_getR dX12_laysPlan_125 f_X12_7 rfl (Nat.lt_of_lt_of_le (by decide) hN) rfl (hR _ _ _ rfl) ?_
        refine E_bp (nI 48) dX12_laysPlan_128 (by decide) ?_
        refine E_iload_n dX12_laysPlan_130 rfl ?_
        refine E_iadd dX12_laysPlan_131 ?_
        refine E.top (nI_add 48 k) ?_
        refine E_ialdN dX12_laysPlan_132 rfl (Nat.lt_of_lt_of_le (by decide) hN) (by omega) ?_
        refine E.top (d5.1.2.2.2.2.2) ?_
        refine E_ic (nI 1) dX12_laysPlan_133 (by decide) ?_
        refine E_cN_eq (a := D1 5) (b := 1) (tgt := 257) dX12_laysPlan_134 (by omega) (by decide) (by decide) (fun cw134 => absurd cw134 (by omega)) (fun cw134 => ?_)
        refine E_aload_n dX12_laysPlan_137 rfl ?_
        refine E_getR dX12_laysPlan_138 f_X12_87 rfl (Nat.lt_of_lt_of_le (by decide) hN) rfl (hR _ _ _ rfl) ?_
        refine E_iload dX12_laysPlan_141 rfl ?_
        refine E_baldN dX12_laysPlan_143 rfl (Nat.lt_of_lt_of_le (by decide) hN) (by omega) ?_
        refine E.top (((hP.keep ((f4.1 139 (by decide) (by decide) (by decide) (by decide)).trans ((f3 139 (by decide)).trans (f2 139 (by decide)))) ((f4.1 140 (by decide) (by decide) (by decide) (by decide)).trans ((f3 140 (by decide)).trans (f2 140 (by decide)))) ((f4.1 141 (by decide) (by decide) (by decide) (by decide)).trans ((f3 141 (by decide)).trans (f2 141 (by decide))))).2.1 _ hpk).trans (congrArg nI (if_neg hzz))) ?_
        refine E_zN_eq (a := ((spP (nxP q k LN Y S) (ouP q k LN Y S T) (brP q k LN Y S) b h dd).1.2.2 (pkD D1) - 1) / 8 + 1) (tgt := 150) dX12_laysPlan_144 (by omega) (by decide) (fun cw144 => absurd cw144 (by omega)) (fun cw144 => ?_)
        refine E_goto (tgt := 257) dX12_laysPlan_147 (by decide) ?_
        refine E_incN dX12_laysPlan_257 rfl ?_
        refine E_goto (tgt := 74) dX12_laysPlan_260 (by decide) ?_
        have e1 : spP (nxP q k LN Y S) (ouP q k LN Y S T) (brP q k LN Y S) b h (dd + 1) = ((spP (nxP q k LN Y S) (ouP q k LN Y S T) (brP q k LN Y S) b h dd).1, 0) := (spP_n h0 (ho0 (by omega)) (hb0 (by omega))).trans (by rw [hs0, show nxP q k LN Y S s dd = pkD D1 from congrArg pkD hD1, nt_f hzz])
        refine E.mask [true, true, true, true, true, true, true, false] ?_
        exact ih (dd + 1) cnt I4 (by omega) (by rw [e1]) (by rw [e1]; exact hcn) (by rw [e1]; exact (hP.keep ((f4.1 139 (by decide) (by decide) (by decide) (by decide)).trans ((f3 139 (by decide)).trans (f2 139 (by decide)))) ((f4.1 140 (by decide) (by decide) (by decide) (by decide)).trans ((f3 140 (by decide)).trans (f2 140 (by decide)))) ((f4.1 141 (by decide) (by decide) (by decide) (by decide)).trans ((f3 141 (by decide)).trans (f2 141 (by decide)))))) ((f4.2.1 46 (by decide) (by decide)).trans ((congrFun (f3 114 (by decide)) 46).trans ((congrFun (f2 114 (by decide)) 46).trans hps))) ((f4.2.1 47 (by decide) (by decide)).trans ((congrFun (f3 114 (by decide)) 47).trans ((congrFun (f2 114 (by decide)) 47).trans hpf))) (hX.keepM (((FM.row f2 (by decide)).trans (FM.row f3 (by decide))).trans (FM.ofM f4))) (fun I5 f5 => hQ0 I5 ((((FM.row f2 (by decide)).trans (FM.row f3 (by decide))).trans (FM.ofM f4)).trans f5)) (fun I5 b5 f5 => hQ1 I5 b5 ((((FM.row f2 (by decide)).trans (FM.row f3 (by decide))).trans (FM.ofM f4)).trans f5))
    · skip
      refine E_iload dX12_laysPlan_74 rfl ?_
      refine E_bp (nI 6) dX12_laysPlan_76 (by decide) ?_
      refine E_cN_ge (a := dd) (b := 6) (tgt := 263) dX12_laysPlan_78 (by omega) (by decide) (by decide) (fun cw78 => absurd cw78 (by omega)) (fun cw78 => ?_)
      refine E_aload_n dX12_laysPlan_81 rfl ?_
      refine E_getI dX12_laysPlan_82 f_X12_360 rfl (Nat.lt_of_lt_of_le (by decide) hN) rfl ?_
      refine E.top (hps) ?_
      refine E_bp (-3) dX12_laysPlan_85 (by decide) ?_
      refine E_icmp_ne (tgt := 263) dX12_laysPlan_87 (by decide) (fun cw87 => by first | exact absurd cw87 (rfl) | exact absurd (rfl) cw87) (fun cw87 => ?_)
      refine E_aload_n dX12_laysPlan_90 rfl ?_
      refine E_iload_n dX12_laysPlan_91 rfl ?_
      refine E_aload_n dX12_laysPlan_92 rfl ?_
      refine E_getR dX12_laysPlan_93 f_X12_84 rfl (Nat.lt_of_lt_of_le (by decide) hN) rfl (hR _ _ _ rfl) ?_
      refine E_iload dX12_laysPlan_96 rfl ?_
      refine E_ialdN dX12_laysPlan_98 rfl (Nat.lt_of_lt_of_le (by decide) hN) (by omega) ?_
      refine E.top ((hP.1 h hlt).trans (congrArg (fun y => nI (rkN y)) hsc)) ?_
      refine E_callV (As := [_, _]) (ci := 11) (kc' := 0) (ks' := 0) (kc := 0) (ks := 0) dX12_laysPlan_99 ok_X12_laysState w_X12_366 i_X12_laysState s_X12_laysState rfl (by decide) rfl (Nat.lt_of_lt_of_le (by decide) hN) rfl rfl rfl (Nat.le_of_ble_eq_true rfl) (Nat.le_of_ble_eq_true rfl) (Nat.le_refl _) (m_laysState (c0 := 0) (LN := LN) (s := s) (Y := Y) hN hR hk hLN hv rfl (fun I2 f2 g2 d2 => ?_))
      refine E_aload_n dX12_laysPlan_102 rfl ?_
      refine E_iload_n dX12_laysPlan_103 rfl ?_
      refine E_ic (nI 0) dX12_laysPlan_104 (by decide) ?_
      refine E_ic (nI 0) dX12_laysPlan_105 (by decide) ?_
      refine E_callV (As := [_, _, _]) (ci := 11) (kc' := 0) (ks' := 0) (kc := 0) (ks := 0) dX12_laysPlan_106 ok_X12_feels w_X12_332 i_X12_feels s_X12_feels rfl (by decide) rfl (Nat.lt_of_lt_of_le (by decide) hN) rfl rfl rfl (Nat.le_of_ble_eq_true rfl) (Nat.le_of_ble_eq_true rfl) (Nat.le_refl _) (m_feels0 (d := d + 4) (i := 0) (w := 0) (D := unD s) hN hR hk hq hLN (hX.keepM (FM.row f2 (by decide))) (unD_ok hv) d2 (fun I3 f3 a3 => ?_))
      refine E_aload_n dX12_laysPlan_109 rfl ?_
      refine E_iload_n dX12_laysPlan_110 rfl ?_
      refine E_iload dX12_laysPlan_111 rfl ?_
      refine E_ic (nI 0) dX12_laysPlan_113 (by decide) ?_
      refine E_callV (As := [_, _, _]) (ci := 11) (kc' := 0) (ks' := 0) (kc := 0) (ks := 0) dX12_laysPlan_114 ok_X12_does w_X12_336 i_X12_does s_X12_does rfl (by decide) rfl (Nat.lt_of_lt_of_le (by decide) hN) rfl rfl rfl (Nat.le_of_ble_eq_true rfl) (Nat.le_of_ble_eq_true rfl) (Nat.le_refl _) (m_doesA0 (d := d) (dd := dd) (i := 0) (w := 0) (c0 := 0) (D := unD s) (by omega) hN hR hk hq hLN (hX.keepM ((FM.row f2 (by decide)).trans (FM.row f3 (by decide)))) (unD_ok hv) ⟨by rw [f3 115 (by decide)]; exact d2.1, fun y => absurd y (by decide)⟩ a3 rfl (fun I4 f4 d4 => ?_))
      have d5 : MDr k 0 0 Y D1 I4 := by rw [← hD1]; exact d4
      refine E_aload_n dX12_laysPlan_117 rfl ?_
      refine E_iload_n dX12_laysPlan_118 rfl ?_
      refine E_callV (As := [_]) (ci := 11) (kc' := 0) (ks' := 0) (kc := 0) (ks := 0) dX12_laysPlan_119 ok_X12_stateOf w_X12_357 i_X12_stateOf s_X12_stateOf rfl (by decide) rfl (Nat.lt_of_lt_of_le (by decide) hN) rfl rfl rfl (Nat.le_of_ble_eq_true rfl) (Nat.le_of_ble_eq_true rfl) (Nat.le_refl _) (m_stateOf (c0 := 0) (Y := Y) (D := D1) hN hR hk d5 ?_)
      skip
      refine E_istore dX12_laysPlan_122 (Nat.le_of_ble_eq_true rfl) ?_
      refine E_aload_n dX12_laysPlan_124 rfl ?_
      refine E_getR dX12_laysPlan_125 f_X12_7 rfl (Nat.lt_of_lt_of_le (by decide) hN) rfl (hR _ _ _ rfl) ?_
      refine E_bp (nI 48) dX12_laysPlan_128 (by decide) ?_
      refine E_iload_n dX12_laysPlan_130 rfl ?_
      refine E_iadd dX12_laysPlan_131 ?_
      refine E.top (nI_add 48 k) ?_
      refine E_ialdN dX12_laysPlan_132 rfl (Nat.lt_of_lt_of_le (by decide) hN) (by omega) ?_
      refine E.top (d5.1.2.2.2.2.2) ?_
      refine E_ic (nI 1) dX12_laysPlan_133 (by decide) ?_
      refine E_cN_eq (a := D1 5) (b := 1) (tgt := 257) dX12_laysPlan_134 (by omega) (by decide) (by decide) (fun cw134 => ?_) (fun cw134 => absurd cw134 (by omega))
      refine E_incN dX12_laysPlan_257 rfl ?_
      refine E_goto (tgt := 74) dX12_laysPlan_260 (by decide) ?_
      have e1 : spP (nxP q k LN Y S) (ouP q k LN Y S T) (brP q k LN Y S) b h (dd + 1) = ((spP (nxP q k LN Y S) (ouP q k LN Y S T) (brP q k LN Y S) b h dd).1, 0) := spP_b h0 (ho0 (fun y => by have := hob y; omega)) (hb1 (by omega))
      refine E.mask [true, true, true, true, true, true, true, false] ?_
      exact ih (dd + 1) cnt I4 (by omega) (by rw [e1]) (by rw [e1]; exact hcn) (by rw [e1]; exact (hP.keep ((f4.1 139 (by decide) (by decide) (by decide) (by decide)).trans ((f3 139 (by decide)).trans (f2 139 (by decide)))) ((f4.1 140 (by decide) (by decide) (by decide) (by decide)).trans ((f3 140 (by decide)).trans (f2 140 (by decide)))) ((f4.1 141 (by decide) (by decide) (by decide) (by decide)).trans ((f3 141 (by decide)).trans (f2 141 (by decide)))))) ((f4.2.1 46 (by decide) (by decide)).trans ((congrFun (f3 114 (by decide)) 46).trans ((congrFun (f2 114 (by decide)) 46).trans hps))) ((f4.2.1 47 (by decide) (by decide)).trans ((congrFun (f3 114 (by decide)) 47).trans ((congrFun (f2 114 (by decide)) 47).trans hpf))) (hX.keepM (((FM.row f2 (by decide)).trans (FM.row f3 (by decide))).trans (FM.ofM f4))) (fun I5 f5 => hQ0 I5 ((((FM.row f2 (by decide)).trans (FM.row f3 (by decide))).trans (FM.ofM f4)).trans f5)) (fun I5 b5 f5 => hQ1 I5 b5 ((((FM.row f2 (by decide)).trans (FM.row f3 (by decide))).trans (FM.ofM f4)).trans f5))
end PDeedsQ
