/-! ===== plan: the reference's search ===== -/
section PSearchM
variable {g : GL} {d n : Nat} {J : JM} {R : RM} {Q : PQ} {k LN T z0 : Nat} {Y S D : FN} {q : LWD}
set_option maxRecDepth 100000 in
set_option maxHeartbeats 2000000 in
theorem m_searchL {K : Nat} (hK : K = 49500) (hN : 152 ≤ n) (hR : RS R) (hk : k < 12) (hq : LWF q) (hLN : LN ≤ 24) (hT : T ≤ 24) (hO : okD LN D) (h5 : D 5 = 0) (h3 : D 3 ≤ T) : ∀ (e j cnt : Nat) (I : IM), j + e = K + 1 → (srP (nxP q k LN Y S) (ouP q k LN Y S T) (brP q k LN Y S) (skB D) j).2 = 0 → cnt = (srP (nxP q k LN Y S) (ouP q k LN Y S T) (brP q k LN Y S) (skB D) j).1.1 → XM LN (srP (nxP q k LN Y S) (ouP q k LN Y S T) (brP q k LN Y S) (skB D) j).1 I → I 114 46 = -3 → I 114 47 = -3 → MCr k LN Y S q I → (∀ (I2 : IM) (b2 : BS), FM I I2 → XM LN b2 I2 → b2.1 ≤ 49501 → (∀ i, i < b2.1 → vP LN (b2.2.1 i)) → I2 114 46 = (if (srP (nxP q k LN Y S) (ouP q k LN Y S T) (brP q k LN Y S) (skB D) K).2 = 0 then -3 else nI (((srP (nxP q k LN Y S) (ouP q k LN Y S T) (brP q k LN Y S) (skB D) K).2 - 1) / 8)) → I2 114 47 = (if (srP (nxP q k LN Y S) (ouP q k LN Y S T) (brP q k LN Y S) (skB D) K).2 = 0 then -3 else nI (((srP (nxP q k LN Y S) (ouP q k LN Y S T) (brP q k LN Y S) (skB D) K).2 - 1) % 8)) → E g mX12_laysPlan (d + 6) 0 0 269 [.ref 114, .int (nI k), .int (nI T), .int (nI z0), .int (nI (b2.1)), jk, jk, jk] [] n I2 J R Q) → E g mX12_laysPlan (d + 6) 0 0 38 [.ref 114, .int (nI k), .int (nI T), .int (nI z0), .int (nI cnt), .int (nI j), jk, jk] [] n I J R Q := by
  have hWa := srP_ok (nx := nxP q k LN Y S) (ou := ouP q k LN Y S T) (br := brP q k LN Y S) (skB_ok hLN hO h5) (fun _ z => z.1) (nx_ok hLN)
  have hLa := srP_lv (nx := nxP q k LN Y S) (ou := ouP q k LN Y S T) (br := brP q k LN Y S) (skB_ok hLN hO h5) (fun _ z => z.1) (nx_ok hLN) (skB_lv D)
  have hB0 : ∀ t, (skB D).2.2 t ≤ 176 := nt_bd (fun t => Nat.zero_le _) (by decide)
  intro e
  induction e with
  | zero =>
    intro j cnt I hje h0 hcn hP hps hpf hX hQ
    have hWj := hWa j
    have hle := hWj.le
    have e9 : srP (nxP q k LN Y S) (ouP q k LN Y S T) (brP q k LN Y S) (skB D) K = srP (nxP q k LN Y S) (ouP q k LN Y S T) (brP q k LN Y S) (skB D) j := by
      have e8 : srP (nxP q k LN Y S) (ouP q k LN Y S T) (brP q k LN Y S) (skB D) (K + 1) = srP (nxP q k LN Y S) (ouP q k LN Y S T) (brP q k LN Y S) (skB D) K := if_neg (fun z => absurd z.2.1 (Nat.not_lt.mpr (by have := (hWa K).le; omega)))
      rw [show j = K + 1 by omega, e8]
    have fin := hQ I (srP (nxP q k LN Y S) (ouP q k LN Y S T) (brP q k LN Y S) (skB D) j).1 (FM.refl I) hP (by omega) (fun i hi => (hWj.1 i hi).1) (by rw [e9, h0]; exact hps) (by rw [e9, h0]; exact hpf)
    rw [← hcn] at fin
    refine E_iload dX12_laysPlan_38 rfl ?_
    refine E_iload dX12_laysPlan_40 rfl ?_
    refine E_cN_ge (a := j) (b := cnt) (tgt := 269) dX12_laysPlan_42 (by omega) (by omega) (by decide) (fun cw42 => ?_) (fun cw42 => absurd cw42 (by omega))
    refine E.mask [true, true, true, true, true, false, false, false] ?_
    exact fin
  | succ e ih =>
    intro j cnt I hje h0 hcn hP hps hpf hX hQ
    have hWj := hWa j
    have hle := hWj.le
    by_cases hjl : j < (srP (nxP q k LN Y S) (ouP q k LN Y S T) (brP q k LN Y S) (skB D) j).1.1
    · obtain ⟨hvj, hmj⟩ := hWj.1 j hjl
      have hlj := rk_lt hLN (unD_ok hvj)
      by_cases cl : lvP (srP (nxP q k LN Y S) (ouP q k LN Y S T) (brP q k LN Y S) (skB D) j).1 j < 20
      · have e1 : srP (nxP q k LN Y S) (ouP q k LN Y S T) (brP q k LN Y S) (skB D) (j + 1) = spP (nxP q k LN Y S) (ouP q k LN Y S T) (brP q k LN Y S) (srP (nxP q k LN Y S) (ouP q k LN Y S T) (brP q k LN Y S) (skB D) j).1 j 6 := srP_t h0 hjl cl
        have hij : j = 0 ↔ lvP (srP (nxP q k LN Y S) (ouP q k LN Y S T) (brP q k LN Y S) (skB D) j).1 j = 0 := ⟨fun y => by rw [show lvP (srP (nxP q k LN Y S) (ouP q k LN Y S T) (brP q k LN Y S) (skB D) j).1 j = lvP (srP (nxP q k LN Y S) (ouP q k LN Y S T) (brP q k LN Y S) (skB D) j).1 0 by rw [← y]]; exact (hLa j).2.2.1, fun y => by
          apply Decidable.byContradiction
          intro c
          have := (hLa j).2.2.2.1 j (by omega) hjl
          omega⟩
        refine E_iload dX12_laysPlan_38 rfl ?_
        refine E_iload dX12_laysPlan_40 rfl ?_
        refine E_cN_ge (a := j) (b := cnt) (tgt := 269) dX12_laysPlan_42 (by omega) (by omega) (by decide) (fun cw42 => absurd cw42 (by omega)) (fun cw42 => ?_)
        refine E_aload_n dX12_laysPlan_45 rfl ?_
        refine E_getI dX12_laysPlan_46 f_X12_360 rfl (Nat.lt_of_lt_of_le (by decide) hN) rfl ?_
        refine E.top (hps) ?_
        refine E_bp (-3) dX12_laysPlan_49 (by decide) ?_
        refine E_icmp_ne (tgt := 269) dX12_laysPlan_51 (by decide) (fun cw51 => by first | exact absurd cw51 (rfl) | exact absurd (rfl) cw51) (fun cw51 => ?_)
        refine E_aload_n dX12_laysPlan_54 rfl ?_
        refine E_getR dX12_laysPlan_55 f_X12_87 rfl (Nat.lt_of_lt_of_le (by decide) hN) rfl (hR _ _ _ rfl) ?_
        refine E_aload_n dX12_laysPlan_58 rfl ?_
        refine E_getR dX12_laysPlan_59 f_X12_84 rfl (Nat.lt_of_lt_of_le (by decide) hN) rfl (hR _ _ _ rfl) ?_
        refine E_iload dX12_laysPlan_62 rfl ?_
        refine E_ialdN dX12_laysPlan_64 rfl (Nat.lt_of_lt_of_le (by decide) hN) (by omega) ?_
        refine E.top (hP.1 j hjl) ?_
        refine E_baldN dX12_laysPlan_65 rfl (Nat.lt_of_lt_of_le (by decide) hN) (rk_lt hLN (unD_ok hvj)) ?_
        refine E.top ((hP.2.1 _ hvj).trans (congrArg nI (if_neg hmj))) ?_
        refine E_bp (nI 20) dX12_laysPlan_66 (by decide) ?_
        refine E_cN_gt (a := lvP (srP (nxP q k LN Y S) (ouP q k LN Y S T) (brP q k LN Y S) (skB D) j).1 j + 1) (b := 20) (tgt := 269) dX12_laysPlan_68 (by omega) (by decide) (by decide) (fun cw68 => absurd cw68 (by omega)) (fun cw68 => ?_)
        refine E_ic (nI 0) dX12_laysPlan_71 (by decide) ?_
        refine E_istore dX12_laysPlan_72 (Nat.le_of_ble_eq_true rfl) ?_
        refine m_deedsL (d := d) (b := (srP (nxP q k LN Y S) (ouP q k LN Y S T) (brP q k LN Y S) (skB D) j).1) (h := j) hN hR hk hq hLN hT hWj hjl rfl rfl rfl cl hij (sk_z hLN hO h5 h3 j) (srP_bd hB0 j) 6 0 cnt I rfl rfl hcn hP hps hpf hX (fun I2 f2 r2 x2 p2 w2 m2 => ?_) (fun I2 b2 f2 r2 x2 v2 n2 p2 w2 => ?_)
        · skip
          refine E_incN dX12_laysPlan_263 rfl ?_
          refine E_goto (tgt := 38) dX12_laysPlan_266 (by decide) ?_
          rw [← e1] at r2 x2 ⊢
          exact ih (j + 1) _ I2 (by omega) r2 rfl x2 p2 w2 m2 (fun I5 b5 f5 => hQ I5 b5 (f2.trans f5))
        · skip
          refine E_incN dX12_laysPlan_263 rfl ?_
          refine E_goto (tgt := 38) dX12_laysPlan_266 (by decide) ?_
          have e2 : srP (nxP q k LN Y S) (ouP q k LN Y S T) (brP q k LN Y S) (skB D) K = spP (nxP q k LN Y S) (ouP q k LN Y S T) (brP q k LN Y S) (srP (nxP q k LN Y S) (ouP q k LN Y S T) (brP q k LN Y S) (skB D) j).1 j 6 := by
            rw [show K = j + 1 + (K - 1 - j) by omega, srP_found (by rw [e1]; exact r2), e1]
          have fin := hQ I2 b2 f2 x2 (by omega) v2 (by rw [e2, if_neg r2]; exact p2) (by rw [e2, if_neg r2]; exact w2)
          have hv3 := spP_v (nx := nxP q k LN Y S) (ou := ouP q k LN Y S T) (br := brP q k LN Y S) (b := (srP (nxP q k LN Y S) (ouP q k LN Y S T) (brP q k LN Y S) (skB D) j).1) (h := j) 6 (Nat.le_refl _) r2
          by_cases c2 : j + 1 < b2.1
          · skip
            refine E_iload dX12_laysPlan_38 rfl ?_
            refine E_iload dX12_laysPlan_40 rfl ?_
            refine E_cN_ge (a := j + 1) (b := b2.1) (tgt := 269) dX12_laysPlan_42 (by omega) (by omega) (by decide) (fun cw42 => absurd cw42 (by omega)) (fun cw42 => ?_)
            refine E_aload_n dX12_laysPlan_45 rfl ?_
            refine E_getI dX12_laysPlan_46 f_X12_360 rfl (Nat.lt_of_lt_of_le (by decide) hN) rfl ?_
            refine E.top (p2) ?_
            refine E_bp (-3) dX12_laysPlan_49 (by decide) ?_
            refine E_icmp_ne (tgt := 269) dX12_laysPlan_51 (by decide) (fun cw51 => ?_) (fun cw51 => by first | exact absurd cw51 (nI_n3 (by rw [hv3]; omega)) | exact absurd (nI_n3 (by rw [hv3]; omega)) cw51)
            refine E.mask [true, true, true, true, true, false, false, false] ?_
            exact fin
          · skip
            refine E_iload dX12_laysPlan_38 rfl ?_
            refine E_iload dX12_laysPlan_40 rfl ?_
            refine E_cN_ge (a := j + 1) (b := b2.1) (tgt := 269) dX12_laysPlan_42 (by omega) (by omega) (by decide) (fun cw42 => ?_) (fun cw42 => absurd cw42 (by omega))
            refine E.mask [true, true, true, true, true, false, false, false] ?_
            exact fin
      · have hlv : lvP (srP (nxP q k LN Y S) (ouP q k LN Y S T) (brP q k LN Y S) (skB D) j).1 j ≤ 176 := Nat.le_trans (Nat.div_le_self _ _) (Nat.le_trans (Nat.sub_le _ _) (srP_bd hB0 j _))
        have e9 : srP (nxP q k LN Y S) (ouP q k LN Y S T) (brP q k LN Y S) (skB D) K = srP (nxP q k LN Y S) (ouP q k LN Y S T) (brP q k LN Y S) (skB D) j := by
          rw [show K = j + (K - j) by omega]
          exact srP_over (fun i i1 i2 => Nat.le_trans (Nat.le_of_not_lt cl) ((hLa j).1 j i i1 i2)) _
        have fin := hQ I (srP (nxP q k LN Y S) (ouP q k LN Y S T) (brP q k LN Y S) (skB D) j).1 (FM.refl I) hP (by omega) (fun i hi => (hWj.1 i hi).1) (by rw [e9, h0]; exact hps) (by rw [e9, h0]; exact hpf)
        rw [← hcn] at fin
        refine E_iload dX12_laysPlan_38 rfl ?_
        refine E_iload dX12_laysPlan_40 rfl ?_
        refine E_cN_ge (a := j) (b := cnt) (tgt := 269) dX12_laysPlan_42 (by omega) (by omega) (by decide) (fun cw42 => absurd cw42 (by omega)) (fun cw42 => ?_)
        refine E_aload_n dX12_laysPlan_45 rfl ?_
        refine E_getI dX12_laysPlan_46 f_X12_360 rfl (Nat.lt_of_lt_of_le (by decide) hN) rfl ?_
        refine E.top (hps) ?_
        refine E_bp (-3) dX12_laysPlan_49 (by decide) ?_
        refine E_icmp_ne (tgt := 269) dX12_laysPlan_51 (by decide) (fun cw51 => by first | exact absurd cw51 (rfl) | exact absurd (rfl) cw51) (fun cw51 => ?_)
        refine E_aload_n dX12_laysPlan_54 rfl ?_
        refine E_getR dX12_laysPlan_55 f_X12_87 rfl (Nat.lt_of_lt_of_le (by decide) hN) rfl (hR _ _ _ rfl) ?_
        refine E_aload_n dX12_laysPlan_58 rfl ?_
        refine E_getR dX12_laysPlan_59 f_X12_84 rfl (Nat.lt_of_lt_of_le (by decide) hN) rfl (hR _ _ _ rfl) ?_
        refine E_iload dX12_laysPlan_62 rfl ?_
        refine E_ialdN dX12_laysPlan_64 rfl (Nat.lt_of_lt_of_le (by decide) hN) (by omega) ?_
        refine E.top (hP.1 j hjl) ?_
        refine E_baldN dX12_laysPlan_65 rfl (Nat.lt_of_lt_of_le (by decide) hN) (rk_lt hLN (unD_ok hvj)) ?_
        refine E.top ((hP.2.1 _ hvj).trans (congrArg nI (if_neg hmj))) ?_
        refine E_bp (nI 20) dX12_laysPlan_66 (by decide) ?_
        refine E_cN_gt (a := lvP (srP (nxP q k LN Y S) (ouP q k LN Y S T) (brP q k LN Y S) (skB D) j).1 j + 1) (b := 20) (tgt := 269) dX12_laysPlan_68 (by omega) (by decide) (by decide) (fun cw68 => ?_) (fun cw68 => absurd cw68 (by omega))
        refine E.mask [true, true, true, true, true, false, false, false] ?_
        exact fin
    · have e9 : srP (nxP q k LN Y S) (ouP q k LN Y S T) (brP q k LN Y S) (skB D) K = srP (nxP q k LN Y S) (ouP q k LN Y S T) (brP q k LN Y S) (skB D) j := by
        rw [show K = j + (K - j) by omega]
        exact srP_over (fun i i1 i2 => absurd i2 (by omega)) _
      have fin := hQ I (srP (nxP q k LN Y S) (ouP q k LN Y S T) (brP q k LN Y S) (skB D) j).1 (FM.refl I) hP (by omega) (fun i hi => (hWj.1 i hi).1) (by rw [e9, h0]; exact hps) (by rw [e9, h0]; exact hpf)
      rw [← hcn] at fin
      refine E_iload dX12_laysPlan_38 rfl ?_
      refine E_iload dX12_laysPlan_40 rfl ?_
      refine E_cN_ge (a := j) (b := cnt) (tgt := 269) dX12_laysPlan_42 (by omega) (by omega) (by decide) (fun cw42 => ?_) (fun cw42 => absurd cw42 (by omega))
      refine E.mask [true, true, true, true, true, false, false, false] ?_
      exact fin
end PSearchM
