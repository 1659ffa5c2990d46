/-! ===== layerIs, count ===== -/
def lI (σ : ST) (k i : Nat) (w : Int32) : Int32 := if w = nI 0 then nI (σ 1 k i) else if w = nI 1 then nI (σ 2 k i) else if w = nI 2 then (if i < σ 3 k 3 then 1 else 0) else -1
def r_li (x y w : Int32) (σ : ST) : Value := .int (if tk σ x ∧ ¬ y < 0 ∧ y.toNatClampNeg < σ 0 x.toNatClampNeg 0 then lI σ x.toNatClampNeg y.toNatClampNeg w else -1)
theorem r_li_t {σ : ST} {j i : Nat} {w : Int32} (hj : j < 12) (h : i < σ 0 j 0) (h24 : σ 0 j 0 ≤ 24) : r_li (nI j) (nI i) w σ = .int (lI σ j i w) := by
  unfold r_li
  have e1 : (nI j).toNatClampNeg = j := nI_clamp (by omega)
  have e2 : (nI i).toNatClampNeg = i := nI_clamp (by omega)
  simp only [e1, e2]
  rw [if_pos ⟨tk_of hj (by omega), nI_pos (by omega), h⟩]
theorem r_li_f {σ : ST} {x y w : Int32} (h : ¬ (tk σ x ∧ ¬ y < 0 ∧ y.toNatClampNeg < σ 0 x.toNatClampNeg 0)) : r_li x y w σ = .int (-1) := by
  unfold r_li
  rw [if_neg h]
theorem lI_no (σ : ST) (k i : Nat) {w : Int32} (h : w < 0 ∨ nI 3 ≤ w) : lI σ k i w = -1 := by
  have key : ∀ j, j < 3 → w ≠ nI j := by
    rintro j hj rfl
    rcases h with h | h
    · exact nI_pos (by omega) h
    · exact nI_ge hj (by decide) h
  unfold lI
  rw [if_neg (key 0 (by decide)), if_neg (key 1 (by decide)), if_neg (key 2 (by decide))]
section PLi
set_option maxRecDepth 100000 in
set_option maxHeartbeats 1000000 in
theorem sx_layerIs (x y w : Int32) : SX mX11_layerIs [.int x, .int y, .int w] (r_li x y w) id := by
  intro g n I J R σ Q hB hX hQ
  have hn := hX.2.2.2.1.n
  have hR := hX.2.2.2.1.1
  have hq := hQ I J hX (fun _ _ _ => rfl) (fun _ _ _ => rfl)
  refine E_aload_n dX11_layerIs_0 rfl ?_
  refine E_iload_n dX11_layerIs_1 rfl ?_
  refine E_callV (As := [_]) (ci := 10) (kc' := 0) (ks' := 0) (kc := 0) (ks := 0) dX11_layerIs_2 ok_X11_isTold w_X11_138 i_X11_isTold s_X11_isTold rfl (by decide) (by first | assumption | rfl) (by first | assumption | omega) rfl rfl rfl (Nat.le_of_ble_eq_true rfl) (Nat.le_of_ble_eq_true rfl) (Nat.le_refl _) (X_isTold (d := 899) hB hX (fun j hj e p => ?_) (fun z => ?_))
  · subst e
    obtain ⟨b1, b2, b3, b4⟩ := hB.1 j hj
    obtain ⟨w1, w2, w3, w4, -⟩ := hX.1 j hj
    have hw := RTw j hj
    obtain ⟨t9, t20, t20b, t7, t7b⟩ := LYw j hj
    rcases i32_ix y (σ 0 j 0) (by omega) with hy | ⟨i, hi, rfl⟩
    · have hno : ¬ (tk σ (nI j) ∧ ¬ y < 0 ∧ y.toNatClampNeg < σ 0 (nI j).toNatClampNeg 0) := by
        rintro ⟨-, h1, h2⟩
        rw [nI_clamp (by omega)] at h2
        rcases hy with h | h
        · exact h1 h
        · obtain ⟨q, hq2, rfl⟩ := nI_of h1
          rw [nI_clamp hq2] at h2
          exact absurd ((nI_leI (by omega) hq2).mp h) (by omega)
      rw [r_li_f hno] at hq
      refine E_if_eq (tgt := 25) dX11_layerIs_5 (by decide) (fun c5 => absurd c5 (by decide)) (fun c5 => ?_)
      refine E_iload_n dX11_layerIs_8 rfl ?_
      refine E_if_lt (tgt := 25) dX11_layerIs_9 (by decide) (fun c9 => ?_) (fun c9 => ?_)
      · refine E_ic (-1) dX11_layerIs_25 (by decide) ?_
        exact E_iret dX11_layerIs_26 rfl (hq)
      · refine E_iload_n dX11_layerIs_12 rfl ?_
        refine E_aload_n dX11_layerIs_13 rfl ?_
        refine E_getR dX11_layerIs_14 f_X11_11 (by first | assumption | rfl) (by first | assumption | omega) rfl (by first | exact hR _ _ _ rfl | assumption) ?_
        refine E_iload_n dX11_layerIs_17 rfl ?_
        refine E_aaldN dX11_layerIs_18 rfl (by omega) hj (hR _ _ _ (RT1 j hj)) ?_
        refine E_getI dX11_layerIs_19 f_X11_187 t9 (by first | assumption | omega) rfl ?_
        refine E.top w1 ?_
        refine E_icmp_lt (tgt := 27) dX11_layerIs_22 (by decide) (fun c22 => absurd c22 (fun z => hy.elim c9 (fun q => absurd z (Int32.not_lt.mpr q)))) (fun c22 => ?_)
        refine E_ic (-1) dX11_layerIs_25 (by decide) ?_
        exact E_iret dX11_layerIs_26 rfl (hq)
    · rw [r_li_t hj hi b1] at hq
      have hi24 : i < 24 := by omega
      refine E_if_eq (tgt := 25) dX11_layerIs_5 (by decide) (fun c5 => absurd c5 (by decide)) (fun c5 => ?_)
      refine E_iload_n dX11_layerIs_8 rfl ?_
      refine E_if_lt (tgt := 25) dX11_layerIs_9 (by decide) (fun c9 => absurd c9 (nI_pos (by omega))) (fun c9 => ?_)
      refine E_iload_n dX11_layerIs_12 rfl ?_
      refine E_aload_n dX11_layerIs_13 rfl ?_
      refine E_getR dX11_layerIs_14 f_X11_11 (by first | assumption | rfl) (by first | assumption | omega) rfl (by first | exact hR _ _ _ rfl | assumption) ?_
      refine E_iload_n dX11_layerIs_17 rfl ?_
      refine E_aaldN dX11_layerIs_18 rfl (by omega) hj (hR _ _ _ (RT1 j hj)) ?_
      refine E_getI dX11_layerIs_19 f_X11_187 t9 (by first | assumption | omega) rfl ?_
      refine E.top w1 ?_
      refine E_icmp_lt (tgt := 27) dX11_layerIs_22 (by decide) (fun c22 => ?_) (fun c22 => absurd (nI_lt hi (by omega)) c22)
      rcases i32_ix w 3 (by decide) with hw0 | ⟨c, hc, rfl⟩
      · rw [lI_no σ j i hw0] at hq
        refine E_iload_n dX11_layerIs_27 rfl ?_
        refine E_tout (tgt := 102) dX11_layerIs_28 (tout (m := 3) (by decide) hw0) (by decide) ?_
        refine E_ic (-1) dX11_layerIs_102 (by decide) ?_
        exact E_iret dX11_layerIs_103 rfl (hq)
      · match c, hc with
        | 0, _ =>
          refine E_iload_n dX11_layerIs_27 rfl ?_
          refine E_tin (tgt := 56) dX11_layerIs_28 (by decide) (by decide) rfl (by decide) ?_
          refine E_aload_n dX11_layerIs_56 rfl ?_
          refine E_getR dX11_layerIs_57 f_X11_11 (by first | assumption | rfl) (by first | assumption | omega) rfl (by first | exact hR _ _ _ rfl | assumption) ?_
          refine E_iload_n dX11_layerIs_60 rfl ?_
          refine E_aaldN dX11_layerIs_61 rfl (by omega) hj (hR _ _ _ (RT1 j hj)) ?_
          refine E_getR dX11_layerIs_62 f_X11_205 t9 (by first | assumption | omega) rfl (hR _ _ _ hw.1) ?_
          refine E_iload_n dX11_layerIs_65 rfl ?_
          refine E_ialdN dX11_layerIs_66 t20 (by omega) hi24 ?_
          refine E.top (w3 i hi).1 ?_
          exact E_iret dX11_layerIs_67 rfl (hq)
        | 1, _ =>
          refine E_iload_n dX11_layerIs_27 rfl ?_
          refine E_tin (tgt := 68) dX11_layerIs_28 (by decide) (by decide) rfl (by decide) ?_
          refine E_aload_n dX11_layerIs_68 rfl ?_
          refine E_getR dX11_layerIs_69 f_X11_11 (by first | assumption | rfl) (by first | assumption | omega) rfl (by first | exact hR _ _ _ rfl | assumption) ?_
          refine E_iload_n dX11_layerIs_72 rfl ?_
          refine E_aaldN dX11_layerIs_73 rfl (by omega) hj (hR _ _ _ (RT1 j hj)) ?_
          refine E_getR dX11_layerIs_74 f_X11_208 t9 (by first | assumption | omega) rfl (hR _ _ _ hw.2.1) ?_
          refine E_iload_n dX11_layerIs_77 rfl ?_
          refine E_ialdN dX11_layerIs_78 t20b (by omega) hi24 ?_
          refine E.top (w3 i hi).2 ?_
          exact E_iret dX11_layerIs_79 rfl (hq)
        | 2, _ =>
          have hq : Q (some (.int (if i < σ 3 j 3 then 1 else 0))) n I J R := hq
          refine E_iload_n dX11_layerIs_27 rfl ?_
          refine E_tin (tgt := 80) dX11_layerIs_28 (by decide) (by decide) rfl (by decide) ?_
          refine E_iload_n dX11_layerIs_80 rfl ?_
          refine E_aload_n dX11_layerIs_81 rfl ?_
          refine E_getR dX11_layerIs_82 f_X11_11 (by first | assumption | rfl) (by first | assumption | omega) rfl (by first | exact hR _ _ _ rfl | assumption) ?_
          refine E_iload_n dX11_layerIs_85 rfl ?_
          refine E_aaldN dX11_layerIs_86 rfl (by omega) hj (hR _ _ _ (RT1 j hj)) ?_
          refine E_getR dX11_layerIs_87 f_X11_146 t9 (by first | assumption | omega) rfl (hR _ _ _ hw.2.2.1) ?_
          refine E_getI dX11_layerIs_90 f_X11_190 t7 (by first | assumption | omega) rfl ?_
          refine E.top (w4 3 (by decide)) ?_
          refine E_icmp_ge (tgt := 100) dX11_layerIs_93 (by decide) (fun c93 => ?_) (fun c93 => ?_)
          · refine E_ic (0) dX11_layerIs_100 (by decide) ?_
            exact E_iret dX11_layerIs_101 rfl (by first | (rw [if_neg (Nat.not_lt.mpr ((nI_leI (by omega) (by omega)).mp c93))] at hq; exact hq) | (rw [if_pos (Nat.not_le.mp (fun z => c93 ((nI_leI (by omega) (by omega)).mpr z)))] at hq; exact hq))
          · refine E_ic (1) dX11_layerIs_96 (by decide) ?_
            refine E_goto (tgt := 101) dX11_layerIs_97 (by decide) ?_
            exact E_iret dX11_layerIs_101 rfl (by first | (rw [if_neg (Nat.not_lt.mpr ((nI_leI (by omega) (by omega)).mp c93))] at hq; exact hq) | (rw [if_pos (Nat.not_le.mp (fun z => c93 ((nI_leI (by omega) (by omega)).mpr z)))] at hq; exact hq))
        | c + 3, h => exact absurd h (by omega)
  · rw [r_li_f (fun y => z y.1)] at hq
    refine E_if_eq (tgt := 25) dX11_layerIs_5 (by decide) (fun c5 => ?_) (fun c5 => absurd (rfl) c5)
    refine E_ic (-1) dX11_layerIs_25 (by decide) ?_
    exact E_iret dX11_layerIs_26 rfl (hq)
set_option maxRecDepth 100000 in
set_option maxHeartbeats 1000000 in
theorem sm_layerIs (x y w : Int32) : SM mX12_layerIs [.int x, .int y, .int w] (r_li x y w) id := by
  intro g n I J R σ Q hB hM hN hR hQ
  have hq := hQ I J hM (fun _ _ => rfl) rfl (fun _ _ _ => rfl)
  refine E_aload_n dX12_layerIs_0 rfl ?_
  refine E_iload_n dX12_layerIs_1 rfl ?_
  refine E_callV (As := [_]) (ci := 11) (kc' := 0) (ks' := 0) (kc := 0) (ks := 0) dX12_layerIs_2 ok_X12_isTold w_X12_340 i_X12_isTold s_X12_isTold rfl (by decide) (by first | assumption | rfl) (by first | assumption | omega) rfl rfl rfl (Nat.le_of_ble_eq_true rfl) (Nat.le_of_ble_eq_true rfl) (Nat.le_refl _) (M_isTold (d := 898) hB hM hN hR (fun j hj e p => ?_) (fun z => ?_))
  · subst e
    obtain ⟨b1, b2, b3, b4⟩ := hB.1 j hj
    obtain ⟨w1, w3⟩ := hM.1 j hj
    obtain ⟨f0, f1, f2, f3, f4, f5⟩ := hM.2.1.1 j hj
    have e1 : nI (σ 0 j 0) - 1 = nI (σ 0 j 0 - 1) := pk_sub (b := 1) p
    rcases i32_ix y (σ 0 j 0) (by omega) with hy | ⟨i, hi, rfl⟩
    · have hno : ¬ (tk σ (nI j) ∧ ¬ y < 0 ∧ y.toNatClampNeg < σ 0 (nI j).toNatClampNeg 0) := by
        rintro ⟨-, h1, h2⟩
        rw [nI_clamp (by omega)] at h2
        rcases hy with h | h
        · exact h1 h
        · obtain ⟨q, hq2, rfl⟩ := nI_of h1
          rw [nI_clamp hq2] at h2
          exact absurd ((nI_leI (by omega) hq2).mp h) (by omega)
      rw [r_li_f hno] at hq
      refine E_if_eq (tgt := 24) dX12_layerIs_5 (by decide) (fun c5 => absurd c5 (by decide)) (fun c5 => ?_)
      refine E_iload_n dX12_layerIs_8 rfl ?_
      refine E_ic (0) dX12_layerIs_9 (by decide) ?_
      refine E_aload_n dX12_layerIs_10 rfl ?_
      refine E_getR dX12_layerIs_11 f_X12_19 (by first | assumption | rfl) (by first | assumption | omega) rfl (by first | exact hR _ _ _ rfl | assumption) ?_
      refine E_iload_n dX12_layerIs_14 rfl ?_
      refine E_ialdN dX12_layerIs_15 rfl (by omega) hj ?_
      refine E.top w1 ?_
      refine E_ic (1) dX12_layerIs_16 (by decide) ?_
      refine E_isub dX12_layerIs_17 ?_
      refine E.top e1 ?_
      refine E_callS (As := [_, _, _]) (kc' := 0) (ks' := 0) (kc := 0) (ks := 0) dX12_layerIs_18 ok_X12_in w_X12_124 st_X12_in rfl rfl rfl (Nat.le_of_ble_eq_true rfl) (Nat.le_of_ble_eq_true rfl) (Nat.le_refl _) (m_in (fun z1 z2 => absurd hy (fun q => q.elim z1 (fun q => z2 (by obtain ⟨a, ha, rfl⟩ := nI_of z1; exact nI_lt (by have := (nI_leI (by omega) ha).mp q; omega) ha)))) (fun _ => ?_))
      refine E_if_ne (tgt := 26) dX12_layerIs_21 (by decide) (fun c21 => absurd (rfl) c21) (fun c21 => ?_)
      refine E_ic (-1) dX12_layerIs_24 (by decide) ?_
      exact E_iret dX12_layerIs_25 rfl (hq)
    · rw [r_li_t hj hi b1] at hq
      have hi24 : i < 24 := by omega
      refine E_if_eq (tgt := 24) dX12_layerIs_5 (by decide) (fun c5 => absurd c5 (by decide)) (fun c5 => ?_)
      refine E_iload_n dX12_layerIs_8 rfl ?_
      refine E_ic (0) dX12_layerIs_9 (by decide) ?_
      refine E_aload_n dX12_layerIs_10 rfl ?_
      refine E_getR dX12_layerIs_11 f_X12_19 (by first | assumption | rfl) (by first | assumption | omega) rfl (by first | exact hR _ _ _ rfl | assumption) ?_
      refine E_iload_n dX12_layerIs_14 rfl ?_
      refine E_ialdN dX12_layerIs_15 rfl (by omega) hj ?_
      refine E.top w1 ?_
      refine E_ic (1) dX12_layerIs_16 (by decide) ?_
      refine E_isub dX12_layerIs_17 ?_
      refine E.top e1 ?_
      refine E_callS (As := [_, _, _]) (kc' := 0) (ks' := 0) (kc := 0) (ks := 0) dX12_layerIs_18 ok_X12_in w_X12_124 st_X12_in rfl rfl rfl (Nat.le_of_ble_eq_true rfl) (Nat.le_of_ble_eq_true rfl) (Nat.le_refl _) (m_in (fun _ _ => ?_) (fun z => absurd z (fun q => q.elim (nI_pos (by omega)) (fun q => absurd ((nI_ltI (by omega) (by omega)).mp q) (by omega)))))
      refine E_if_ne (tgt := 26) dX12_layerIs_21 (by decide) (fun c21 => ?_) (fun c21 => absurd c21 (by decide))
      have hq : Q (some (.int (if w = nI 0 then nI (σ 1 j i) else if w = nI 1 then nI (σ 2 j i) else if w = nI 2 then (if i < σ 3 j 3 then 1 else 0) else -1))) n I J R := hq
      refine E_iload_n dX12_layerIs_26 rfl ?_
      refine E_if_ne (tgt := 43) dX12_layerIs_27 (by decide) (fun c27 => ?_) (fun c27 => ?_)
      · refine E_iload_n dX12_layerIs_43 rfl ?_
        refine E_ic (1) dX12_layerIs_44 (by decide) ?_
        refine E_icmp_ne (tgt := 61) dX12_layerIs_45 (by decide) (fun c45 => ?_) (fun c45 => ?_)
        · refine E_iload_n dX12_layerIs_61 rfl ?_
          refine E_ic (2) dX12_layerIs_62 (by decide) ?_
          refine E_icmp_ne (tgt := 87) dX12_layerIs_63 (by decide) (fun c63 => ?_) (fun c63 => ?_)
          · refine E_ic (-1) dX12_layerIs_87 (by decide) ?_
            exact E_iret dX12_layerIs_88 rfl (by first | (rw [if_pos (show w = nI 0 from c27)] at hq; exact hq) | (rw [if_neg (show ¬ w = nI 0 from c27)] at hq; first | (rw [if_pos (show w = nI 1 from c45)] at hq; exact hq) | (rw [if_neg (show ¬ w = nI 1 from c45)] at hq; first | (rw [if_neg (show ¬ w = nI 2 from c63)] at hq; exact hq) | (rw [if_pos (show w = nI 2 from c63)] at hq; first | (rw [if_neg (Nat.not_lt.mpr ((nI_leI (by omega) (by omega)).mp c76))] at hq; exact hq) | (rw [if_pos (Nat.not_le.mp (fun z => c76 ((nI_leI (by omega) (by omega)).mpr z)))] at hq; exact hq)))))
          · refine E_iload_n dX12_layerIs_66 rfl ?_
            refine E_aload_n dX12_layerIs_67 rfl ?_
            refine E_getR dX12_layerIs_68 f_X12_7 (by first | assumption | rfl) (by first | assumption | omega) rfl (by first | exact hR _ _ _ rfl | assumption) ?_
            refine E_bp (60) dX12_layerIs_71 (by decide) ?_
            refine E_iload_n dX12_layerIs_73 rfl ?_
            refine E_iadd dX12_layerIs_74 ?_
            refine E.top (show (60 : Int32) + nI j = nI (60 + j) from nI_add 60 j) ?_
            refine E_ialdN dX12_layerIs_75 rfl (by omega) (by omega) ?_
            refine E.top f5 ?_
            refine E_icmp_ge (tgt := 83) dX12_layerIs_76 (by decide) (fun c76 => ?_) (fun c76 => ?_)
            · refine E_ic (0) dX12_layerIs_83 (by decide) ?_
              refine E_goto (tgt := 88) dX12_layerIs_84 (by decide) ?_
              exact E_iret dX12_layerIs_88 rfl (by first | (rw [if_pos (show w = nI 0 from c27)] at hq; exact hq) | (rw [if_neg (show ¬ w = nI 0 from c27)] at hq; first | (rw [if_pos (show w = nI 1 from c45)] at hq; exact hq) | (rw [if_neg (show ¬ w = nI 1 from c45)] at hq; first | (rw [if_neg (show ¬ w = nI 2 from c63)] at hq; exact hq) | (rw [if_pos (show w = nI 2 from c63)] at hq; first | (rw [if_neg (Nat.not_lt.mpr ((nI_leI (by omega) (by omega)).mp c76))] at hq; exact hq) | (rw [if_pos (Nat.not_le.mp (fun z => c76 ((nI_leI (by omega) (by omega)).mpr z)))] at hq; exact hq)))))
            · refine E_ic (1) dX12_layerIs_79 (by decide) ?_
              refine E_goto (tgt := 88) dX12_layerIs_80 (by decide) ?_
              exact E_iret dX12_layerIs_88 rfl (by first | (rw [if_pos (show w = nI 0 from c27)] at hq; exact hq) | (rw [if_neg (show ¬ w = nI 0 from c27)] at hq; first | (rw [if_pos (show w = nI 1 from c45)] at hq; exact hq) | (rw [if_neg (show ¬ w = nI 1 from c45)] at hq; first | (rw [if_neg (show ¬ w = nI 2 from c63)] at hq; exact hq) | (rw [if_pos (show w = nI 2 from c63)] at hq; first | (rw [if_neg (Nat.not_lt.mpr ((nI_leI (by omega) (by omega)).mp c76))] at hq; exact hq) | (rw [if_pos (Nat.not_le.mp (fun z => c76 ((nI_leI (by omega) (by omega)).mpr z)))] at hq; exact hq)))))
        · refine E_aload_n dX12_layerIs_48 rfl ?_
          refine E_getR dX12_layerIs_49 f_X12_25 (by first | assumption | rfl) (by first | assumption | omega) rfl (by first | exact hR _ _ _ rfl | assumption) ?_
          refine E_iload_n dX12_layerIs_52 rfl ?_
          refine E_iload_n dX12_layerIs_53 rfl ?_
          refine E_callS (As := [_, _]) (kc' := 0) (ks' := 0) (kc := 0) (ks := 0) dX12_layerIs_54 ok_X12_at w_X12_280 st_X12_at rfl rfl rfl (Nat.le_of_ble_eq_true rfl) (Nat.le_of_ble_eq_true rfl) (Nat.le_refl _) (m_at ?_)
          refine E_ialdN dX12_layerIs_57 rfl (by omega) (by omega) ?_
          refine E.top (w3 i hi).2 ?_
          refine E_goto (tgt := 88) dX12_layerIs_58 (by decide) ?_
          exact E_iret dX12_layerIs_88 rfl (by first | (rw [if_pos (show w = nI 0 from c27)] at hq; exact hq) | (rw [if_neg (show ¬ w = nI 0 from c27)] at hq; first | (rw [if_pos (show w = nI 1 from c45)] at hq; exact hq) | (rw [if_neg (show ¬ w = nI 1 from c45)] at hq; first | (rw [if_neg (show ¬ w = nI 2 from c63)] at hq; exact hq) | (rw [if_pos (show w = nI 2 from c63)] at hq; first | (rw [if_neg (Nat.not_lt.mpr ((nI_leI (by omega) (by omega)).mp c76))] at hq; exact hq) | (rw [if_pos (Nat.not_le.mp (fun z => c76 ((nI_leI (by omega) (by omega)).mpr z)))] at hq; exact hq)))))
      · refine E_aload_n dX12_layerIs_30 rfl ?_
        refine E_getR dX12_layerIs_31 f_X12_22 (by first | assumption | rfl) (by first | assumption | omega) rfl (by first | exact hR _ _ _ rfl | assumption) ?_
        refine E_iload_n dX12_layerIs_34 rfl ?_
        refine E_iload_n dX12_layerIs_35 rfl ?_
        refine E_callS (As := [_, _]) (kc' := 0) (ks' := 0) (kc := 0) (ks := 0) dX12_layerIs_36 ok_X12_at w_X12_280 st_X12_at rfl rfl rfl (Nat.le_of_ble_eq_true rfl) (Nat.le_of_ble_eq_true rfl) (Nat.le_refl _) (m_at ?_)
        refine E_ialdN dX12_layerIs_39 rfl (by omega) (by omega) ?_
        refine E.top (w3 i hi).1 ?_
        refine E_goto (tgt := 88) dX12_layerIs_40 (by decide) ?_
        exact E_iret dX12_layerIs_88 rfl (by first | (rw [if_pos (show w = nI 0 from c27)] at hq; exact hq) | (rw [if_neg (show ¬ w = nI 0 from c27)] at hq; first | (rw [if_pos (show w = nI 1 from c45)] at hq; exact hq) | (rw [if_neg (show ¬ w = nI 1 from c45)] at hq; first | (rw [if_neg (show ¬ w = nI 2 from c63)] at hq; exact hq) | (rw [if_pos (show w = nI 2 from c63)] at hq; first | (rw [if_neg (Nat.not_lt.mpr ((nI_leI (by omega) (by omega)).mp c76))] at hq; exact hq) | (rw [if_pos (Nat.not_le.mp (fun z => c76 ((nI_leI (by omega) (by omega)).mpr z)))] at hq; exact hq)))))
  · rw [r_li_f (fun y => z y.1)] at hq
    refine E_if_eq (tgt := 24) dX12_layerIs_5 (by decide) (fun c5 => ?_) (fun c5 => absurd (rfl) c5)
    refine E_ic (-1) dX12_layerIs_24 (by decide) ?_
    exact E_iret dX12_layerIs_25 rfl (hq)
end PLi
