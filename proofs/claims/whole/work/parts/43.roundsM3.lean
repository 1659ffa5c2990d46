/-! ===== the texts with rounds, the reference's rounds ===== -/
section PRoundsM3
variable {g : GL} {d n : Nat} {I : IM} {J : JM} {R : RM} {Q : PQ} {t c : Nat → Nat} {L most il p s : Nat} {f : FN} {st : SK}
set_option maxRecDepth 100000 in
set_option maxHeartbeats 2000000 in
theorem m_readsLayer (hN : 152 ≤ n) (hR : RS R) (hc : okc t L c) (hL : L ≤ 260) (hC : CTm t L most il I) (hp : p ≤ L) (hP : RPm st p s f I) (hQ0 : ∀ q, pnS 1 c p = .inl q → ∀ I2 : IM, RFm I I2 → I2 114 10 = flt 1 q → Q (some (.int 0)) n I2 J R) (hQ1 : ∀ r : Nat × Nat, pnS 1 c p = .inr r → ∀ I2 : IM, RFm I I2 → RPm st r.2 s f I2 → I2 114 11 = nI r.1 → Q (some (.int 1)) n I2 J R) : E g mX12_readsLayer (d + 2) 0 0 0 (ent 3 [.ref 114]) [] n I J R Q := by
  have H3 : (48 ≤ c p ∧ c p ≤ 57) → (48 ≤ c (p + 1) ∧ c (p + 1) ≤ 57) → E g mX12_readsLayer (d + 2) 0 0 4 [.ref 114, .int (nI (10 * (c p - 48) + (c (p + 1) - 48))), .int (nI 2)] [] n (up2 (up2 I 114 8 (nI (p + 1))) 114 8 (nI (p + 1 + 1))) J R Q := by
    intro z1 z2
    refine E_iload_n dX12_readsLayer_4 rfl ?_
    refine E_ic (nI 2) dX12_readsLayer_5 (by decide) ?_
    refine E_cN_ge (a := 2) (b := 2) (tgt := 55) dX12_readsLayer_6 (by decide) (by decide) (by decide) (fun cw6 => ?_) (fun cw6 => absurd cw6 (by omega))
    refine E_aload_n dX12_readsLayer_55 rfl ?_
    refine E_callV (As := []) (ci := 11) (kc' := 0) (ks' := 0) (kc := 0) (ks := 0) dX12_readsLayer_56 ok_X12_here w_X12_142 i_X12_here s_X12_here rfl (by decide) rfl (Nat.lt_of_lt_of_le (by decide) hN) rfl rfl rfl (Nat.le_of_ble_eq_true rfl) (Nat.le_of_ble_eq_true rfl) (Nat.le_refl _) (m_here hN hR hc hL ((hC.keep ((RFm.up I (nI (p + 1)) (by decide)).trans (RFm.up (up2 I 114 8 (nI (p + 1))) (nI (p + 1 + 1)) (by decide)))).1) ((hC.keep ((RFm.up I (nI (p + 1)) (by decide)).trans (RFm.up (up2 I 114 8 (nI (p + 1))) (nI (p + 1 + 1)) (by decide)))).2.2.2) (p := p + 2) (by omega) (up2_s _ _ _ _) ?_)
    refine E_bp (nI 97) dX12_readsLayer_59 (by decide) ?_
    refine E_bp (nI 112) dX12_readsLayer_61 (by decide) ?_
    refine E_callS (As := [_, _, _]) (kc' := 0) (ks' := 0) (kc := 0) (ks := 0) dX12_readsLayer_63 ok_X12_in w_X12_124 st_X12_in rfl rfl rfl (Nat.le_of_ble_eq_true rfl) (Nat.le_of_ble_eq_true rfl) (Nat.le_refl _) (m_inC (by decide) (by decide) (fun y1 y2 => ?_) (fun yn => ?_))
    · skip
      refine E_zN_ne (a := 1) (tgt := 79) dX12_readsLayer_66 (by decide) (by decide) (fun cw66 => ?_) (fun cw66 => absurd cw66 (by omega))
      refine E_aload_n dX12_readsLayer_79 rfl ?_
      refine E_bp (nI 16) dX12_readsLayer_80 (by decide) ?_
      refine E_iload_n dX12_readsLayer_82 rfl ?_
      refine E_imul dX12_readsLayer_83 ?_
      refine E.top (pk_mul 16 (10 * (c p - 48) + (c (p + 1) - 48))) ?_
      refine E.top (congrArg nI (Nat.mul_comm 16 _)) ?_
      refine E_aload_n dX12_readsLayer_84 rfl ?_
      refine E_callV (As := []) (ci := 11) (kc' := 0) (ks' := 0) (kc := 0) (ks := 0) dX12_readsLayer_85 ok_X12_here w_X12_142 i_X12_here s_X12_here rfl (by decide) rfl (Nat.lt_of_lt_of_le (by decide) hN) rfl rfl rfl (Nat.le_of_ble_eq_true rfl) (Nat.le_of_ble_eq_true rfl) (Nat.le_refl _) (m_here hN hR hc hL ((hC.keep ((RFm.up I (nI (p + 1)) (by decide)).trans (RFm.up (up2 I 114 8 (nI (p + 1))) (nI (p + 1 + 1)) (by decide)))).1) ((hC.keep ((RFm.up I (nI (p + 1)) (by decide)).trans (RFm.up (up2 I 114 8 (nI (p + 1))) (nI (p + 1 + 1)) (by decide)))).2.2.2) (p := p + 2) (by omega) (up2_s _ _ _ _) ?_)
      refine E_iadd dX12_readsLayer_88 ?_
      refine E_bp (nI 97) dX12_readsLayer_89 (by decide) ?_
      refine E_isub dX12_readsLayer_91 ?_
      refine E.top (show nI ((10 * (c p - 48) + (c (p + 1) - 48)) * 16) + chI (c (p + 2)) - nI 97 = nI ((10 * (c p - 48) + (c (p + 1) - 48)) * 16 + (c (p + 2) - 97)) by rw [show chI (c (p + 2)) = nI (c (p + 2)) from if_pos (by omega), nI_add, pk_sub (by omega)]; congr 1; omega) ?_
      refine E_putI dX12_readsLayer_92 f_X12_153 rfl (Nat.lt_of_lt_of_le (by decide) hN) rfl ?_
      refine E_aload_n dX12_readsLayer_95 rfl ?_
      refine E_aload_n dX12_readsLayer_96 rfl ?_
      refine E_getI dX12_readsLayer_97 f_X12_136 rfl (Nat.lt_of_lt_of_le (by decide) hN) rfl ?_
      refine E.top ((up2_k _ _ (by decide)).trans (up2_s _ _ _ _)) ?_
      refine E_ic (nI 1) dX12_readsLayer_100 (by decide) ?_
      refine E_iadd dX12_readsLayer_101 ?_
      refine E.top (nI_add (p + 2) 1) ?_
      refine E_putI dX12_readsLayer_102 f_X12_136 rfl (Nat.lt_of_lt_of_le (by decide) hN) rfl ?_
      refine E_ic (nI 1) dX12_readsLayer_105 (by decide) ?_
      exact E_zret dX12_readsLayer_106 rfl (by decide) (hQ1 ((10 * (c p - 48) + (c (p + 1) - 48)) * 16 + (c (p + 2) - 97), p + 3) (pnL z1 z2 ⟨y1, y2⟩) _ (((RFm.up I (nI (p + 1)) (by decide)).trans (RFm.up (up2 I 114 8 (nI (p + 1))) (nI (p + 1 + 1)) (by decide))).trans ((RFm.up _ _ (by decide)).trans (RFm.up _ _ (by decide)))) (RPm.at (p := p + 2) (RPm.fl (k := 11) ((hP.at (q := p + 1)).at (q := p + 1 + 1)) (by decide))) ((up2_k _ _ (by decide)).trans (up2_s _ _ _ _)))
    · skip
      refine E_zN_ne (a := 0) (tgt := 79) dX12_readsLayer_66 (by decide) (by decide) (fun cw66 => absurd cw66 (by omega)) (fun cw66 => ?_)
      refine E_aload_n dX12_readsLayer_69 rfl ?_
      refine E_ic (nI 1) dX12_readsLayer_70 (by decide) ?_
      refine E_aload_n dX12_readsLayer_71 rfl ?_
      refine E_getI dX12_readsLayer_72 f_X12_136 rfl (Nat.lt_of_lt_of_le (by decide) hN) rfl ?_
      refine E.top (up2_s _ _ _ _) ?_
      refine E_callV (As := [_, _]) (ci := 11) (kc' := 0) (ks' := 0) (kc := 0) (ks := 0) dX12_readsLayer_75 ok_X12_wrongAt w_X12_149 i_X12_wrongAt s_X12_wrongAt rfl (by decide) rfl (Nat.lt_of_lt_of_le (by decide) hN) rfl rfl rfl (Nat.le_of_ble_eq_true rfl) (Nat.le_of_ble_eq_true rfl) (Nat.le_refl _) (m_wrongAt (k := 1) (q := p + 2) hN ?_)
      exact E_zret dX12_readsLayer_78 rfl (by decide) (hQ0 (p + 2) (pnL2 z1 z2 yn) _ (((RFm.up I (nI (p + 1)) (by decide)).trans (RFm.up (up2 I 114 8 (nI (p + 1))) (nI (p + 1 + 1)) (by decide))).trans (RFm.up _ _ (by decide))) (up2_s _ _ _ _))
  have H2 : (48 ≤ c p ∧ c p ≤ 57) → E g mX12_readsLayer (d + 2) 0 0 4 [.ref 114, .int (nI (c p - 48)), .int (nI 1)] [] n (up2 I 114 8 (nI (p + 1))) J R Q := by
    intro z1
    refine E_iload_n dX12_readsLayer_4 rfl ?_
    refine E_ic (nI 2) dX12_readsLayer_5 (by decide) ?_
    refine E_cN_ge (a := 1) (b := 2) (tgt := 55) dX12_readsLayer_6 (by decide) (by decide) (by decide) (fun cw6 => absurd cw6 (by omega)) (fun cw6 => ?_)
    refine E_aload_n dX12_readsLayer_9 rfl ?_
    refine E_callV (As := []) (ci := 11) (kc' := 0) (ks' := 0) (kc := 0) (ks := 0) dX12_readsLayer_10 ok_X12_isDigit w_X12_156 i_X12_isDigit s_X12_isDigit rfl (by decide) rfl (Nat.lt_of_lt_of_le (by decide) hN) rfl rfl rfl (Nat.le_of_ble_eq_true rfl) (Nat.le_of_ble_eq_true rfl) (Nat.le_refl _) (m_isDigit (d := d) hN hR hc hL (hC.keep (RFm.up I (nI (p + 1)) (by decide))) (p := p + 1) (by omega) (up2_s _ _ _ _) (fun y1 y2 => ?_) (fun yn => ?_))
    · skip
      refine E_zN_ne (a := 1) (tgt := 26) dX12_readsLayer_13 (by decide) (by decide) (fun cw13 => ?_) (fun cw13 => absurd cw13 (by omega))
      refine E_bp (nI 10) dX12_readsLayer_26 (by decide) ?_
      refine E_iload_n dX12_readsLayer_28 rfl ?_
      refine E_imul dX12_readsLayer_29 ?_
      refine E.top (pk_mul 10 (c p - 48)) ?_
      refine E_aload_n dX12_readsLayer_30 rfl ?_
      refine E_callV (As := []) (ci := 11) (kc' := 0) (ks' := 0) (kc := 0) (ks := 0) dX12_readsLayer_31 ok_X12_here w_X12_142 i_X12_here s_X12_here rfl (by decide) rfl (Nat.lt_of_lt_of_le (by decide) hN) rfl rfl rfl (Nat.le_of_ble_eq_true rfl) (Nat.le_of_ble_eq_true rfl) (Nat.le_refl _) (m_here hN hR hc hL ((hC.keep (RFm.up I (nI (p + 1)) (by decide))).1) ((hC.keep (RFm.up I (nI (p + 1)) (by decide))).2.2.2) (p := p + 1) (by omega) (up2_s _ _ _ _) ?_)
      refine E_iadd dX12_readsLayer_34 ?_
      refine E_bp (nI 48) dX12_readsLayer_35 (by decide) ?_
      refine E_isub dX12_readsLayer_37 ?_
      refine E.top (show nI (10 * (c p - 48)) + chI (c (p + 1)) - nI 48 = nI (10 * (c p - 48) + (c (p + 1) - 48)) by rw [show chI (c (p + 1)) = nI (c (p + 1)) from if_pos (by omega), nI_add, pk_sub (by omega)]; congr 1; omega) ?_
      refine E_istore_n dX12_readsLayer_38 (Nat.le_of_ble_eq_true rfl) ?_
      refine E_aload_n dX12_readsLayer_39 rfl ?_
      refine E_aload_n dX12_readsLayer_40 rfl ?_
      refine E_getI dX12_readsLayer_41 f_X12_136 rfl (Nat.lt_of_lt_of_le (by decide) hN) rfl ?_
      refine E.top (up2_s _ _ _ _) ?_
      refine E_ic (nI 1) dX12_readsLayer_44 (by decide) ?_
      refine E_iadd dX12_readsLayer_45 ?_
      refine E.top (nI_add (p + 1) 1) ?_
      refine E_putI dX12_readsLayer_46 f_X12_136 rfl (Nat.lt_of_lt_of_le (by decide) hN) rfl ?_
      refine E_incN dX12_readsLayer_49 rfl ?_
      refine E_goto (tgt := 4) dX12_readsLayer_52 (by decide) ?_
      exact H3 z1 ⟨y1, y2⟩
    · skip
      refine E_zN_ne (a := 0) (tgt := 26) dX12_readsLayer_13 (by decide) (by decide) (fun cw13 => absurd cw13 (by omega)) (fun cw13 => ?_)
      refine E_aload_n dX12_readsLayer_16 rfl ?_
      refine E_ic (nI 1) dX12_readsLayer_17 (by decide) ?_
      refine E_aload_n dX12_readsLayer_18 rfl ?_
      refine E_getI dX12_readsLayer_19 f_X12_136 rfl (Nat.lt_of_lt_of_le (by decide) hN) rfl ?_
      refine E.top (up2_s _ _ _ _) ?_
      refine E_callV (As := [_, _]) (ci := 11) (kc' := 0) (ks' := 0) (kc := 0) (ks := 0) dX12_readsLayer_22 ok_X12_wrongAt w_X12_149 i_X12_wrongAt s_X12_wrongAt rfl (by decide) rfl (Nat.lt_of_lt_of_le (by decide) hN) rfl rfl rfl (Nat.le_of_ble_eq_true rfl) (Nat.le_of_ble_eq_true rfl) (Nat.le_refl _) (m_wrongAt (k := 1) (q := p + 1) hN ?_)
      exact E_zret dX12_readsLayer_25 rfl (by decide) (hQ0 (p + 1) (pnL1 z1 yn) _ ((RFm.up I (nI (p + 1)) (by decide)).trans (RFm.up _ _ (by decide))) (up2_s _ _ _ _))
  refine E_ic (nI 0) dX12_readsLayer_0 (by decide) ?_
  refine E_istore_n dX12_readsLayer_1 (Nat.le_of_ble_eq_true rfl) ?_
  refine E_ic (nI 0) dX12_readsLayer_2 (by decide) ?_
  refine E_istore_n dX12_readsLayer_3 (Nat.le_of_ble_eq_true rfl) ?_
  refine E_iload_n dX12_readsLayer_4 rfl ?_
  refine E_ic (nI 2) dX12_readsLayer_5 (by decide) ?_
  refine E_cN_ge (a := 0) (b := 2) (tgt := 55) dX12_readsLayer_6 (by decide) (by decide) (by decide) (fun cw6 => absurd cw6 (by omega)) (fun cw6 => ?_)
  refine E_aload_n dX12_readsLayer_9 rfl ?_
  refine E_callV (As := []) (ci := 11) (kc' := 0) (ks' := 0) (kc := 0) (ks := 0) dX12_readsLayer_10 ok_X12_isDigit w_X12_156 i_X12_isDigit s_X12_isDigit rfl (by decide) rfl (Nat.lt_of_lt_of_le (by decide) hN) rfl rfl rfl (Nat.le_of_ble_eq_true rfl) (Nat.le_of_ble_eq_true rfl) (Nat.le_refl _) (m_isDigit (d := d) hN hR hc hL (hC) (p := p) (by omega) (hP.1) (fun y1 y2 => ?_) (fun yn => ?_))
  · skip
    refine E_zN_ne (a := 1) (tgt := 26) dX12_readsLayer_13 (by decide) (by decide) (fun cw13 => ?_) (fun cw13 => absurd cw13 (by omega))
    refine E_bp (nI 10) dX12_readsLayer_26 (by decide) ?_
    refine E_iload_n dX12_readsLayer_28 rfl ?_
    refine E_imul dX12_readsLayer_29 ?_
    refine E.top (pk_mul 10 0) ?_
    refine E.top (congrArg nI (Nat.mul_zero 10)) ?_
    refine E_aload_n dX12_readsLayer_30 rfl ?_
    refine E_callV (As := []) (ci := 11) (kc' := 0) (ks' := 0) (kc := 0) (ks := 0) dX12_readsLayer_31 ok_X12_here w_X12_142 i_X12_here s_X12_here rfl (by decide) rfl (Nat.lt_of_lt_of_le (by decide) hN) rfl rfl rfl (Nat.le_of_ble_eq_true rfl) (Nat.le_of_ble_eq_true rfl) (Nat.le_refl _) (m_here hN hR hc hL (hC.1) (hC.2.2.2) (p := p) (by omega) (hP.1) ?_)
    refine E_iadd dX12_readsLayer_34 ?_
    refine E_bp (nI 48) dX12_readsLayer_35 (by decide) ?_
    refine E_isub dX12_readsLayer_37 ?_
    refine E.top (show nI 0 + chI (c p) - nI 48 = nI (c p - 48) by rw [show chI (c p) = nI (c p) from if_pos (by omega), nI_add, pk_sub (by omega), Nat.zero_add]) ?_
    refine E_istore_n dX12_readsLayer_38 (Nat.le_of_ble_eq_true rfl) ?_
    refine E_aload_n dX12_readsLayer_39 rfl ?_
    refine E_aload_n dX12_readsLayer_40 rfl ?_
    refine E_getI dX12_readsLayer_41 f_X12_136 rfl (Nat.lt_of_lt_of_le (by decide) hN) rfl ?_
    refine E.top (hP.1) ?_
    refine E_ic (nI 1) dX12_readsLayer_44 (by decide) ?_
    refine E_iadd dX12_readsLayer_45 ?_
    refine E.top (nI_add p 1) ?_
    refine E_putI dX12_readsLayer_46 f_X12_136 rfl (Nat.lt_of_lt_of_le (by decide) hN) rfl ?_
    refine E_incN dX12_readsLayer_49 rfl ?_
    refine E_goto (tgt := 4) dX12_readsLayer_52 (by decide) ?_
    exact H2 ⟨y1, y2⟩
  · skip
    refine E_zN_ne (a := 0) (tgt := 26) dX12_readsLayer_13 (by decide) (by decide) (fun cw13 => absurd cw13 (by omega)) (fun cw13 => ?_)
    refine E_aload_n dX12_readsLayer_16 rfl ?_
    refine E_ic (nI 1) dX12_readsLayer_17 (by decide) ?_
    refine E_aload_n dX12_readsLayer_18 rfl ?_
    refine E_getI dX12_readsLayer_19 f_X12_136 rfl (Nat.lt_of_lt_of_le (by decide) hN) rfl ?_
    refine E.top (hP.1) ?_
    refine E_callV (As := [_, _]) (ci := 11) (kc' := 0) (ks' := 0) (kc := 0) (ks := 0) dX12_readsLayer_22 ok_X12_wrongAt w_X12_149 i_X12_wrongAt s_X12_wrongAt rfl (by decide) rfl (Nat.lt_of_lt_of_le (by decide) hN) rfl rfl rfl (Nat.le_of_ble_eq_true rfl) (Nat.le_of_ble_eq_true rfl) (Nat.le_refl _) (m_wrongAt (k := 1) (q := p) hN ?_)
    exact E_zret dX12_readsLayer_25 rfl (by decide) (hQ0 p (pnL0 yn) _ (RFm.up _ _ (by decide)) (up2_s _ _ _ _))
set_option maxRecDepth 100000 in
set_option maxHeartbeats 2000000 in
theorem m_readsDeed (hN : 152 ≤ n) (hR : RS R) (hc : okc t L c) (hL : L ≤ 260) (hC : CTm t L most il I) (hp : p ≤ L) (hP : RPm st p s f I) (hQ0 : ∀ q, pnS 0 c p = .inl q → ∀ I2 : IM, RFm I I2 → I2 114 10 = flt 1 q → Q (some (.int 0)) n I2 J R) (hQ1 : ∀ r : Nat × Nat, pnS 0 c p = .inr r → ∀ I2 : IM, RFm I I2 → RPm st r.2 s f I2 → I2 114 11 = nI r.1 → Q (some (.int 1)) n I2 J R) : E g mX12_readsDeed (d + 2) 0 0 0 (ent 2 [.ref 114]) [] n I J R Q := by
  refine E_aload_n dX12_readsDeed_0 rfl ?_
  refine E_callV (As := []) (ci := 11) (kc' := 0) (ks' := 0) (kc := 0) (ks := 0) dX12_readsDeed_1 ok_X12_here w_X12_142 i_X12_here s_X12_here rfl (by decide) rfl (Nat.lt_of_lt_of_le (by decide) hN) rfl rfl rfl (Nat.le_of_ble_eq_true rfl) (Nat.le_of_ble_eq_true rfl) (Nat.le_refl _) (m_here hN hR hc hL (hC.1) (hC.2.2.2) (p := p) (by omega) (hP.1) ?_)
  refine E_istore_n dX12_readsDeed_4 (Nat.le_of_ble_eq_true rfl) ?_
  refine E_aload_n dX12_readsDeed_5 rfl ?_
  refine E_iload_n dX12_readsDeed_6 rfl ?_
  refine E_bp (nI 116) dX12_readsDeed_7 (by decide) ?_
  refine E_icmp_ne (tgt := 16) dX12_readsDeed_9 (by decide) (fun cw9 => ?_) (fun cw9 => ?_)
  · refine E_iload_n dX12_readsDeed_16 rfl ?_
    refine E_bp (nI 112) dX12_readsDeed_17 (by decide) ?_
    refine E_icmp_ne (tgt := 26) dX12_readsDeed_19 (by decide) (fun cw19 => ?_) (fun cw19 => ?_)
    · refine E_iload_n dX12_readsDeed_26 rfl ?_
      refine E_bp (nI 115) dX12_readsDeed_27 (by decide) ?_
      refine E_icmp_ne (tgt := 36) dX12_readsDeed_29 (by decide) (fun cw29 => ?_) (fun cw29 => ?_)
      · refine E_iload_n dX12_readsDeed_36 rfl ?_
        refine E_bp (nI 98) dX12_readsDeed_37 (by decide) ?_
        refine E_icmp_ne (tgt := 46) dX12_readsDeed_39 (by decide) (fun cw39 => ?_) (fun cw39 => ?_)
        · refine E_iload_n dX12_readsDeed_46 rfl ?_
          refine E_bp (nI 111) dX12_readsDeed_47 (by decide) ?_
          refine E_icmp_ne (tgt := 56) dX12_readsDeed_49 (by decide) (fun cw49 => ?_) (fun cw49 => ?_)
          · refine E_iload_n dX12_readsDeed_56 rfl ?_
            refine E_bp (nI 99) dX12_readsDeed_57 (by decide) ?_
            refine E_icmp_ne (tgt := 66) dX12_readsDeed_59 (by decide) (fun cw59 => ?_) (fun cw59 => ?_)
            · refine E_ic (-1) dX12_readsDeed_66 (by decide) ?_
              have hd : dlS (c p) = 6 := by unfold dlS; rw [if_neg (fun z => cw9 ((ch_eq (by decide)).mpr z)), if_neg (fun z => cw19 ((ch_eq (by decide)).mpr z)), if_neg (fun z => cw29 ((ch_eq (by decide)).mpr z)), if_neg (fun z => cw39 ((ch_eq (by decide)).mpr z)), if_neg (fun z => cw49 ((ch_eq (by decide)).mpr z)), if_neg (fun z => cw59 ((ch_eq (by decide)).mpr z))]
              refine E_putI dX12_readsDeed_67 f_X12_153 rfl (Nat.lt_of_lt_of_le (by decide) hN) rfl ?_
              refine E_aload_n dX12_readsDeed_70 rfl ?_
              refine E_getI dX12_readsDeed_71 f_X12_153 rfl (Nat.lt_of_lt_of_le (by decide) hN) rfl ?_
              refine E.top (up2_s _ _ _ _) ?_
              refine E_ic (-1) dX12_readsDeed_74 (by decide) ?_
              refine E_icmp_ne (tgt := 88) dX12_readsDeed_75 (by decide) (fun cw75 => by first | exact absurd cw75 (fun z => z rfl) | exact absurd (fun z => z rfl) cw75) (fun cw75 => ?_)
              refine E_aload_n dX12_readsDeed_78 rfl ?_
              refine E_ic (nI 1) dX12_readsDeed_79 (by decide) ?_
              refine E_aload_n dX12_readsDeed_80 rfl ?_
              refine E_getI dX12_readsDeed_81 f_X12_136 rfl (Nat.lt_of_lt_of_le (by decide) hN) rfl ?_
              refine E.top ((up2_k _ _ (by decide)).trans hP.1) ?_
              refine E_callV (As := [_, _]) (ci := 11) (kc' := 0) (ks' := 0) (kc := 0) (ks := 0) dX12_readsDeed_84 ok_X12_wrongAt w_X12_149 i_X12_wrongAt s_X12_wrongAt rfl (by decide) rfl (Nat.lt_of_lt_of_le (by decide) hN) rfl rfl rfl (Nat.le_of_ble_eq_true rfl) (Nat.le_of_ble_eq_true rfl) (Nat.le_refl _) (m_wrongAt (k := 1) (q := p) hN ?_)
              exact E_zret dX12_readsDeed_87 rfl (by decide) (hQ0 p ((if_neg (by decide)).trans (if_neg (by rw [show dlS (c p) = 6 from hd]; decide))) _ ((RFm.up I _ (by decide)).trans (RFm.up _ _ (by decide))) (up2_s _ _ _ _))
            · refine E_ic (nI 5) dX12_readsDeed_62 (by decide) ?_
              refine E_goto (tgt := 67) dX12_readsDeed_63 (by decide) ?_
              have hd : dlS (c p) = 5 := by unfold dlS; rw [if_neg (fun z => cw9 ((ch_eq (by decide)).mpr z)), if_neg (fun z => cw19 ((ch_eq (by decide)).mpr z)), if_neg (fun z => cw29 ((ch_eq (by decide)).mpr z)), if_neg (fun z => cw39 ((ch_eq (by decide)).mpr z)), if_neg (fun z => cw49 ((ch_eq (by decide)).mpr z)), if_pos ((ch_eq (by decide)).mp cw59)]
              refine E_putI dX12_readsDeed_67 f_X12_153 rfl (Nat.lt_of_lt_of_le (by decide) hN) rfl ?_
              refine E_aload_n dX12_readsDeed_70 rfl ?_
              refine E_getI dX12_readsDeed_71 f_X12_153 rfl (Nat.lt_of_lt_of_le (by decide) hN) rfl ?_
              refine E.top (up2_s _ _ _ _) ?_
              refine E_ic (-1) dX12_readsDeed_74 (by decide) ?_
              refine E_icmp_ne (tgt := 88) dX12_readsDeed_75 (by decide) (fun cw75 => ?_) (fun cw75 => by first | exact absurd cw75 ((by decide)) | exact absurd ((by decide)) cw75)
              refine E_aload_n dX12_readsDeed_88 rfl ?_
              refine E_aload_n dX12_readsDeed_89 rfl ?_
              refine E_getI dX12_readsDeed_90 f_X12_136 rfl (Nat.lt_of_lt_of_le (by decide) hN) rfl ?_
              refine E.top ((up2_k _ _ (by decide)).trans hP.1) ?_
              refine E_ic (nI 1) dX12_readsDeed_93 (by decide) ?_
              refine E_iadd dX12_readsDeed_94 ?_
              refine E.top (nI_add p 1) ?_
              refine E_putI dX12_readsDeed_95 f_X12_136 rfl (Nat.lt_of_lt_of_le (by decide) hN) rfl ?_
              refine E_ic (nI 1) dX12_readsDeed_98 (by decide) ?_
              exact E_zret dX12_readsDeed_99 rfl (by decide) (hQ1 (dlS (c p), p + 1) ((if_neg (by decide)).trans (if_pos (by rw [hd]; decide))) _ ((RFm.up I _ (by decide)).trans (RFm.up _ _ (by decide))) (RPm.at (p := p) (hP.fl (k := 11) (by decide))) ((up2_k _ _ (by decide)).trans ((up2_s _ _ _ _).trans (by rw [hd]))))
          · refine E_ic (nI 4) dX12_readsDeed_52 (by decide) ?_
            refine E_goto (tgt := 67) dX12_readsDeed_53 (by decide) ?_
            have hd : dlS (c p) = 4 := by unfold dlS; rw [if_neg (fun z => cw9 ((ch_eq (by decide)).mpr z)), if_neg (fun z => cw19 ((ch_eq (by decide)).mpr z)), if_neg (fun z => cw29 ((ch_eq (by decide)).mpr z)), if_neg (fun z => cw39 ((ch_eq (by decide)).mpr z)), if_pos ((ch_eq (by decide)).mp cw49)]
            refine E_putI dX12_readsDeed_67 f_X12_153 rfl (Nat.lt_of_lt_of_le (by decide) hN) rfl ?_
            refine E_aload_n dX12_readsDeed_70 rfl ?_
            refine E_getI dX12_readsDeed_71 f_X12_153 rfl (Nat.lt_of_lt_of_le (by decide) hN) rfl ?_
            refine E.top (up2_s _ _ _ _) ?_
            refine E_ic (-1) dX12_readsDeed_74 (by decide) ?_
            refine E_icmp_ne (tgt := 88) dX12_readsDeed_75 (by decide) (fun cw75 => ?_) (fun cw75 => by first | exact absurd cw75 ((by decide)) | exact absurd ((by decide)) cw75)
            refine E_aload_n dX12_readsDeed_88 rfl ?_
            refine E_aload_n dX12_readsDeed_89 rfl ?_
            refine E_getI dX12_readsDeed_90 f_X12_136 rfl (Nat.lt_of_lt_of_le (by decide) hN) rfl ?_
            refine E.top ((up2_k _ _ (by decide)).trans hP.1) ?_
            refine E_ic (nI 1) dX12_readsDeed_93 (by decide) ?_
            refine E_iadd dX12_readsDeed_94 ?_
            refine E.top (nI_add p 1) ?_
            refine E_putI dX12_readsDeed_95 f_X12_136 rfl (Nat.lt_of_lt_of_le (by decide) hN) rfl ?_
            refine E_ic (nI 1) dX12_readsDeed_98 (by decide) ?_
            exact E_zret dX12_readsDeed_99 rfl (by decide) (hQ1 (dlS (c p), p + 1) ((if_neg (by decide)).trans (if_pos (by rw [hd]; decide))) _ ((RFm.up I _ (by decide)).trans (RFm.up _ _ (by decide))) (RPm.at (p := p) (hP.fl (k := 11) (by decide))) ((up2_k _ _ (by decide)).trans ((up2_s _ _ _ _).trans (by rw [hd]))))
        · refine E_ic (nI 3) dX12_readsDeed_42 (by decide) ?_
          refine E_goto (tgt := 67) dX12_readsDeed_43 (by decide) ?_
          have hd : dlS (c p) = 3 := by unfold dlS; rw [if_neg (fun z => cw9 ((ch_eq (by decide)).mpr z)), if_neg (fun z => cw19 ((ch_eq (by decide)).mpr z)), if_neg (fun z => cw29 ((ch_eq (by decide)).mpr z)), if_pos ((ch_eq (by decide)).mp cw39)]
          refine E_putI dX12_readsDeed_67 f_X12_153 rfl (Nat.lt_of_lt_of_le (by decide) hN) rfl ?_
          refine E_aload_n dX12_readsDeed_70 rfl ?_
          refine E_getI dX12_readsDeed_71 f_X12_153 rfl (Nat.lt_of_lt_of_le (by decide) hN) rfl ?_
          refine E.top (up2_s _ _ _ _) ?_
          refine E_ic (-1) dX12_readsDeed_74 (by decide) ?_
          refine E_icmp_ne (tgt := 88) dX12_readsDeed_75 (by decide) (fun cw75 => ?_) (fun cw75 => by first | exact absurd cw75 ((by decide)) | exact absurd ((by decide)) cw75)
          refine E_aload_n dX12_readsDeed_88 rfl ?_
          refine E_aload_n dX12_readsDeed_89 rfl ?_
          refine E_getI dX12_readsDeed_90 f_X12_136 rfl (Nat.lt_of_lt_of_le (by decide) hN) rfl ?_
          refine E.top ((up2_k _ _ (by decide)).trans hP.1) ?_
          refine E_ic (nI 1) dX12_readsDeed_93 (by decide) ?_
          refine E_iadd dX12_readsDeed_94 ?_
          refine E.top (nI_add p 1) ?_
          refine E_putI dX12_readsDeed_95 f_X12_136 rfl (Nat.lt_of_lt_of_le (by decide) hN) rfl ?_
          refine E_ic (nI 1) dX12_readsDeed_98 (by decide) ?_
          exact E_zret dX12_readsDeed_99 rfl (by decide) (hQ1 (dlS (c p), p + 1) ((if_neg (by decide)).trans (if_pos (by rw [hd]; decide))) _ ((RFm.up I _ (by decide)).trans (RFm.up _ _ (by decide))) (RPm.at (p := p) (hP.fl (k := 11) (by decide))) ((up2_k _ _ (by decide)).trans ((up2_s _ _ _ _).trans (by rw [hd]))))
      · refine E_ic (nI 2) dX12_readsDeed_32 (by decide) ?_
        refine E_goto (tgt := 67) dX12_readsDeed_33 (by decide) ?_
        have hd : dlS (c p) = 2 := by unfold dlS; rw [if_neg (fun z => cw9 ((ch_eq (by decide)).mpr z)), if_neg (fun z => cw19 ((ch_eq (by decide)).mpr z)), if_pos ((ch_eq (by decide)).mp cw29)]
        refine E_putI dX12_readsDeed_67 f_X12_153 rfl (Nat.lt_of_lt_of_le (by decide) hN) rfl ?_
        refine E_aload_n dX12_readsDeed_70 rfl ?_
        refine E_getI dX12_readsDeed_71 f_X12_153 rfl (Nat.lt_of_lt_of_le (by decide) hN) rfl ?_
        refine E.top (up2_s _ _ _ _) ?_
        refine E_ic (-1) dX12_readsDeed_74 (by decide) ?_
        refine E_icmp_ne (tgt := 88) dX12_readsDeed_75 (by decide) (fun cw75 => ?_) (fun cw75 => by first | exact absurd cw75 ((by decide)) | exact absurd ((by decide)) cw75)
        refine E_aload_n dX12_readsDeed_88 rfl ?_
        refine E_aload_n dX12_readsDeed_89 rfl ?_
        refine E_getI dX12_readsDeed_90 f_X12_136 rfl (Nat.lt_of_lt_of_le (by decide) hN) rfl ?_
        refine E.top ((up2_k _ _ (by decide)).trans hP.1) ?_
        refine E_ic (nI 1) dX12_readsDeed_93 (by decide) ?_
        refine E_iadd dX12_readsDeed_94 ?_
        refine E.top (nI_add p 1) ?_
        refine E_putI dX12_readsDeed_95 f_X12_136 rfl (Nat.lt_of_lt_of_le (by decide) hN) rfl ?_
        refine E_ic (nI 1) dX12_readsDeed_98 (by decide) ?_
        exact E_zret dX12_readsDeed_99 rfl (by decide) (hQ1 (dlS (c p), p + 1) ((if_neg (by decide)).trans (if_pos (by rw [hd]; decide))) _ ((RFm.up I _ (by decide)).trans (RFm.up _ _ (by decide))) (RPm.at (p := p) (hP.fl (k := 11) (by decide))) ((up2_k _ _ (by decide)).trans ((up2_s _ _ _ _).trans (by rw [hd]))))
    · refine E_ic (nI 1) dX12_readsDeed_22 (by decide) ?_
      refine E_goto (tgt := 67) dX12_readsDeed_23 (by decide) ?_
      have hd : dlS (c p) = 1 := by unfold dlS; rw [if_neg (fun z => cw9 ((ch_eq (by decide)).mpr z)), if_pos ((ch_eq (by decide)).mp cw19)]
      refine E_putI dX12_readsDeed_67 f_X12_153 rfl (Nat.lt_of_lt_of_le (by decide) hN) rfl ?_
      refine E_aload_n dX12_readsDeed_70 rfl ?_
      refine E_getI dX12_readsDeed_71 f_X12_153 rfl (Nat.lt_of_lt_of_le (by decide) hN) rfl ?_
      refine E.top (up2_s _ _ _ _) ?_
      refine E_ic (-1) dX12_readsDeed_74 (by decide) ?_
      refine E_icmp_ne (tgt := 88) dX12_readsDeed_75 (by decide) (fun cw75 => ?_) (fun cw75 => by first | exact absurd cw75 ((by decide)) | exact absurd ((by decide)) cw75)
      refine E_aload_n dX12_readsDeed_88 rfl ?_
      refine E_aload_n dX12_readsDeed_89 rfl ?_
      refine E_getI dX12_readsDeed_90 f_X12_136 rfl (Nat.lt_of_lt_of_le (by decide) hN) rfl ?_
      refine E.top ((up2_k _ _ (by decide)).trans hP.1) ?_
      refine E_ic (nI 1) dX12_readsDeed_93 (by decide) ?_
      refine E_iadd dX12_readsDeed_94 ?_
      refine E.top (nI_add p 1) ?_
      refine E_putI dX12_readsDeed_95 f_X12_136 rfl (Nat.lt_of_lt_of_le (by decide) hN) rfl ?_
      refine E_ic (nI 1) dX12_readsDeed_98 (by decide) ?_
      exact E_zret dX12_readsDeed_99 rfl (by decide) (hQ1 (dlS (c p), p + 1) ((if_neg (by decide)).trans (if_pos (by rw [hd]; decide))) _ ((RFm.up I _ (by decide)).trans (RFm.up _ _ (by decide))) (RPm.at (p := p) (hP.fl (k := 11) (by decide))) ((up2_k _ _ (by decide)).trans ((up2_s _ _ _ _).trans (by rw [hd]))))
  · refine E_ic (nI 0) dX12_readsDeed_12 (by decide) ?_
    refine E_goto (tgt := 67) dX12_readsDeed_13 (by decide) ?_
    have hd : dlS (c p) = 0 := by unfold dlS; rw [if_pos ((ch_eq (by decide)).mp cw9)]
    refine E_putI dX12_readsDeed_67 f_X12_153 rfl (Nat.lt_of_lt_of_le (by decide) hN) rfl ?_
    refine E_aload_n dX12_readsDeed_70 rfl ?_
    refine E_getI dX12_readsDeed_71 f_X12_153 rfl (Nat.lt_of_lt_of_le (by decide) hN) rfl ?_
    refine E.top (up2_s _ _ _ _) ?_
    refine E_ic (-1) dX12_readsDeed_74 (by decide) ?_
    refine E_icmp_ne (tgt := 88) dX12_readsDeed_75 (by decide) (fun cw75 => ?_) (fun cw75 => by first | exact absurd cw75 ((by decide)) | exact absurd ((by decide)) cw75)
    refine E_aload_n dX12_readsDeed_88 rfl ?_
    refine E_aload_n dX12_readsDeed_89 rfl ?_
    refine E_getI dX12_readsDeed_90 f_X12_136 rfl (Nat.lt_of_lt_of_le (by decide) hN) rfl ?_
    refine E.top ((up2_k _ _ (by decide)).trans hP.1) ?_
    refine E_ic (nI 1) dX12_readsDeed_93 (by decide) ?_
    refine E_iadd dX12_readsDeed_94 ?_
    refine E.top (nI_add p 1) ?_
    refine E_putI dX12_readsDeed_95 f_X12_136 rfl (Nat.lt_of_lt_of_le (by decide) hN) rfl ?_
    refine E_ic (nI 1) dX12_readsDeed_98 (by decide) ?_
    exact E_zret dX12_readsDeed_99 rfl (by decide) (hQ1 (dlS (c p), p + 1) ((if_neg (by decide)).trans (if_pos (by rw [hd]; decide))) _ ((RFm.up I _ (by decide)).trans (RFm.up _ _ (by decide))) (RPm.at (p := p) (hP.fl (k := 11) (by decide))) ((up2_k _ _ (by decide)).trans ((up2_s _ _ _ _).trans (by rw [hd]))))
theorem fin_ge {most t p s p2 s2 : Nat} {f2 : FN} {r : Nat × Nat × FN} (h : finS most t p s p2 s2 f2 = .inr r) (ht : 1 ≤ t) : s2 ≤ r.2.1 := by
  unfold finS at h
  split at h
  · cases h
  · have e := Sum.inr.inj h
    subst e
    have hx : s2 - s ≤ (s2 - s) * t := Nat.le_mul_of_pos_right _ ht
    show s2 ≤ s + (s2 - s) * t
    omega
theorem fin_p {most t p s p2 s2 : Nat} {f2 : FN} {r : Nat × Nat × FN} (h : finS most t p s p2 s2 f2 = .inr r) : r.1 = p2 := by
  unfold finS at h
  split at h
  · cases h
  · have e := Sum.inr.inj h
    subst e
    rfl
/-- as skO, but each holds something -/
def skP (st : SK) (s q : Nat) : Prop := ∀ e, e ∈ st → e.2.1 < s ∧ 1 ≤ e.2.2 ∧ e.2.2 ≤ 9
set_option maxRecDepth 100000 in
set_option maxHeartbeats 2000000 in
theorem m_close {fr tm : Nat} (hN : 152 ≤ n) (hR : RS R) (hc : okc t L c) (hL : L ≤ 260) (hm : most ≤ 96) : ∀ {st : SK} {I : IM} {p s : Nat} {f : FN}, CTm t L most il I → p ≤ L → s ≤ most → (∀ e, e ∈ st → (e.2.1 < s ∧ e.1 ≤ p) ∧ 1 ≤ e.2.2 ∧ e.2.2 ≤ 9) → (∀ i, i < s → f i < 2 ^ 31) → st.length ≤ 2 → RPm st p s f I → ROm I J R n Q (clR most c st p s f) → E g mX12_readsIt (d + 2) 0 0 201 [.ref 114, .int (nI fr), .int (nI tm)] [] n I J R Q := by
  intro st
  induction st with
  | nil =>
    intro I p s f hC hp hs hsk hf hl hP hQ
    refine E_aload_n dX12_readsIt_201 rfl ?_
    refine E_callV (As := []) (ci := 11) (kc' := 0) (ks' := 0) (kc := 0) (ks := 0) dX12_readsIt_202 ok_X12_here w_X12_142 i_X12_here s_X12_here rfl (by decide) rfl (Nat.lt_of_lt_of_le (by decide) hN) rfl rfl rfl (Nat.le_of_ble_eq_true rfl) (Nat.le_of_ble_eq_true rfl) (Nat.le_refl _) (m_here hN hR hc hL (hC.1) (hC.2.2.2) (p := p) (by omega) (hP.1) ?_)
    refine E_bp (nI 41) dX12_readsIt_205 (by decide) ?_
    refine E_icmp_ne (tgt := 273) dX12_readsIt_207 (by decide) (fun cw207 => ?_) (fun cw207 => ?_)
    · refine E_ic (nI 1) dX12_readsIt_273 (by decide) ?_
      exact E_zret dX12_readsIt_274 rfl (by decide) (hQ I (RFm.refl I) hP)
    · refine E_aload_n dX12_readsIt_210 rfl ?_
      refine E_getI dX12_readsIt_211 f_X12_261 rfl (Nat.lt_of_lt_of_le (by decide) hN) rfl ?_
      refine E.top (hP.2.2.2.1) ?_
      refine E_zN_le (a := 0) (tgt := 273) dX12_readsIt_214 (by decide) (by decide) (fun cw214 => ?_) (fun cw214 => absurd cw214 (by omega))
      refine E_ic (nI 1) dX12_readsIt_273 (by decide) ?_
      exact E_zret dX12_readsIt_274 rfl (by decide) (hQ I (RFm.refl I) hP)
  | cons e st ih =>
    intro I p s f hC hp hs hsk hf hl hP hQ
    have hl2 : st.length + 1 ≤ 2 := hl
    by_cases h41 : c p = 41
    · skip
      refine E_aload_n dX12_readsIt_201 rfl ?_
      refine E_callV (As := []) (ci := 11) (kc' := 0) (ks' := 0) (kc := 0) (ks := 0) dX12_readsIt_202 ok_X12_here w_X12_142 i_X12_here s_X12_here rfl (by decide) rfl (Nat.lt_of_lt_of_le (by decide) hN) rfl rfl rfl (Nat.le_of_ble_eq_true rfl) (Nat.le_of_ble_eq_true rfl) (Nat.le_refl _) (m_here hN hR hc hL (hC.1) (hC.2.2.2) (p := p) (by omega) (hP.1) ?_)
      refine E_bp (nI 41) dX12_readsIt_205 (by decide) ?_
      refine E_icmp_ne (tgt := 273) dX12_readsIt_207 (by decide) (fun cw207 => by first | exact absurd cw207 (fun z => z ((ch_eq (by decide)).mpr h41)) | exact absurd (fun z => z ((ch_eq (by decide)).mpr h41)) cw207) (fun cw207 => ?_)
      refine E_aload_n dX12_readsIt_210 rfl ?_
      refine E_getI dX12_readsIt_211 f_X12_261 rfl (Nat.lt_of_lt_of_le (by decide) hN) rfl ?_
      refine E.top (hP.2.2.2.1) ?_
      refine E_zN_le (a := st.length + 1) (tgt := 273) dX12_readsIt_214 (by omega) (by decide) (fun cw214 => absurd cw214 (by omega)) (fun cw214 => ?_)
      refine E_aload_n dX12_readsIt_217 rfl ?_
      refine E_aload_n dX12_readsIt_218 rfl ?_
      refine E_getI dX12_readsIt_219 f_X12_136 rfl (Nat.lt_of_lt_of_le (by decide) hN) rfl ?_
      refine E.top (hP.1) ?_
      refine E_ic (nI 1) dX12_readsIt_222 (by decide) ?_
      refine E_iadd dX12_readsIt_223 ?_
      refine E.top (nI_add p 1) ?_
      refine E_putI dX12_readsIt_224 f_X12_136 rfl (Nat.lt_of_lt_of_le (by decide) hN) rfl ?_
      refine E_aload_n dX12_readsIt_227 rfl ?_
      refine E_aload_n dX12_readsIt_228 rfl ?_
      refine E_getI dX12_readsIt_229 f_X12_261 rfl (Nat.lt_of_lt_of_le (by decide) hN) rfl ?_
      refine E.top ((up2_k _ _ (by decide)).trans hP.2.2.2.1) ?_
      refine E_ic (nI 1) dX12_readsIt_232 (by decide) ?_
      refine E_isub dX12_readsIt_233 ?_
      refine E.top (pk_sub (a := st.length + 1) (b := 1) (by omega)) ?_
      refine E.top (congrArg nI (Nat.add_sub_cancel (n := st.length) (m := 1))) ?_
      refine E_putI dX12_readsIt_234 f_X12_261 rfl (Nat.lt_of_lt_of_le (by decide) hN) rfl ?_
      have pl := hc.lt (p := p) (by omega)
      have PC : RPm st (p + 1) s f (up2 (up2 I 114 8 (nI (p + 1))) 114 36 (nI st.length)) := ⟨(up2_k _ _ (by decide)).trans (up2_s _ _ _ _), (up2_k _ _ (by decide)).trans hP.at.2.1, fun i hi => (congrFun (up2_o _ 114 _ _ 135 (by decide)) i).trans (hP.at.2.2.1 i hi), up2_s _ _ _ _, (hP.at (q := p + 1)).2.2.2.2.2.2.2.congr (up2_o _ 114 _ _ 136 (by decide)) (up2_o _ 114 _ _ 137 (by decide)) (up2_o _ 114 _ _ 138 (by decide))⟩
      have K6 := (hP.at (q := p + 1)).2.2.2.2
      obtain ⟨⟨h1, h1b⟩, h2, h3⟩ := hsk e List.mem_cons_self
      refine E_aload_n dX12_readsIt_237 rfl ?_
      refine E_aload_n dX12_readsIt_238 rfl ?_
      refine E_getR dX12_readsIt_239 f_X12_77 rfl (Nat.lt_of_lt_of_le (by decide) hN) rfl (hR _ _ _ rfl) ?_
      refine E_aload_n dX12_readsIt_242 rfl ?_
      refine E_getI dX12_readsIt_243 f_X12_261 rfl (Nat.lt_of_lt_of_le (by decide) hN) rfl ?_
      refine E.top (up2_s _ _ _ _) ?_
      refine E_ialdN dX12_readsIt_246 rfl (Nat.lt_of_lt_of_le (by decide) hN) (by omega) ?_
      refine E.top ((congrFun (up2_o _ 114 _ _ 137 (by decide)) _).trans K6.2.1) ?_
      refine E_aload_n dX12_readsIt_247 rfl ?_
      refine E_getR dX12_readsIt_248 f_X12_80 rfl (Nat.lt_of_lt_of_le (by decide) hN) rfl (hR _ _ _ rfl) ?_
      refine E_aload_n dX12_readsIt_251 rfl ?_
      refine E_getI dX12_readsIt_252 f_X12_261 rfl (Nat.lt_of_lt_of_le (by decide) hN) rfl ?_
      refine E.top (up2_s _ _ _ _) ?_
      refine E_ialdN dX12_readsIt_255 rfl (Nat.lt_of_lt_of_le (by decide) hN) (by omega) ?_
      refine E.top ((congrFun (up2_o _ 114 _ _ 138 (by decide)) _).trans K6.2.2.1) ?_
      refine E_aload_n dX12_readsIt_256 rfl ?_
      refine E_getR dX12_readsIt_257 f_X12_74 rfl (Nat.lt_of_lt_of_le (by decide) hN) rfl (hR _ _ _ rfl) ?_
      refine E_aload_n dX12_readsIt_260 rfl ?_
      refine E_getI dX12_readsIt_261 f_X12_261 rfl (Nat.lt_of_lt_of_le (by decide) hN) rfl ?_
      refine E.top (up2_s _ _ _ _) ?_
      refine E_ialdN dX12_readsIt_264 rfl (Nat.lt_of_lt_of_le (by decide) hN) (by omega) ?_
      refine E.top ((congrFun (up2_o _ 114 _ _ 136 (by decide)) _).trans K6.1) ?_
      refine E_callV (As := [_, _, _]) (ci := 11) (kc' := 0) (ks' := 0) (kc := 0) (ks := 0) dX12_readsIt_265 ok_X12_repeats w_X12_270 i_X12_repeats s_X12_repeats rfl (by decide) rfl (Nat.lt_of_lt_of_le (by decide) hN) rfl rfl rfl (Nat.le_of_ble_eq_true rfl) (Nat.le_of_ble_eq_true rfl) (Nat.le_refl _) (m_repeats (d := d) (st := st) (p := p + 1) (s := s) (f := f) (a := e.2.1) (tm := e.2.2) (fr := e.1) hN hR (hC.keep ((RFm.up I (nI (p + 1)) (by decide)).trans (RFm.up (up2 I 114 8 (nI (p + 1))) (nI st.length) (by decide)))) hm (by omega) h1 h2 h3 PC ?_)
      show ROm (up2 (up2 I 114 8 (nI (p + 1))) 114 36 (nI st.length)) J R n _ (match finS most e.2.2 e.1 e.2.1 (p + 1) s f with | .inl x => .inl x | .inr r => .inr (st, r.1, r.2.1, r.2.2))
      cases hfi : finS most e.2.2 e.1 e.2.1 (p + 1) s f with
      | inl x =>
        rw [show clR most c (e :: st) p s f = .inl x from (if_pos h41).trans (by rw [hfi])] at hQ
        intro I4 f4 e4
        refine E_zN_ne (a := 0) (tgt := 201) dX12_readsIt_268 (by decide) (by decide) (fun cw268 => absurd cw268 (by omega)) (fun cw268 => ?_)
        refine E_ic (nI 0) dX12_readsIt_271 (by decide) ?_
        exact E_zret dX12_readsIt_272 rfl (by decide) (hQ I4 (((RFm.up I (nI (p + 1)) (by decide)).trans (RFm.up (up2 I 114 8 (nI (p + 1))) (nI st.length) (by decide))).trans f4) e4)
      | inr r =>
        rw [show clR most c (e :: st) p s f = clR most c st r.1 r.2.1 r.2.2 from (if_pos h41).trans (by rw [hfi])] at hQ
        obtain ⟨o1, o2, o3, o4, o5⟩ := fin_ok (B := 2 ^ 31) (L := L) hfi (by omega) (show e.1 < p + 1 by omega) (by omega) (show e.2.1 < s by omega) (fun i hi => hf i hi)
        have o6 := fin_ge hfi (by omega)
        have o7 := fin_p hfi
        intro I4 f4 P4
        refine E_if_ne (tgt := 201) dX12_readsIt_268 (by decide) (fun cw268 => ?_) (fun cw268 => absurd cw268 (by decide))
        refine ih (hC.keep (((RFm.up I (nI (p + 1)) (by decide)).trans (RFm.up (up2 I 114 8 (nI (p + 1))) (nI st.length) (by decide))).trans f4)) o2 o4 (fun x hx => ⟨⟨?_, ?_⟩, (hsk x (List.mem_cons_of_mem _ hx)).2⟩) o5 (by omega) P4 (hQ.from (((RFm.up I (nI (p + 1)) (by decide)).trans (RFm.up (up2 I 114 8 (nI (p + 1))) (nI st.length) (by decide))).trans f4))
        · have := (hsk x (List.mem_cons_of_mem _ hx)).1.1
          omega
        · have := (hsk x (List.mem_cons_of_mem _ hx)).1.2
          omega
    · skip
      refine E_aload_n dX12_readsIt_201 rfl ?_
      refine E_callV (As := []) (ci := 11) (kc' := 0) (ks' := 0) (kc := 0) (ks := 0) dX12_readsIt_202 ok_X12_here w_X12_142 i_X12_here s_X12_here rfl (by decide) rfl (Nat.lt_of_lt_of_le (by decide) hN) rfl rfl rfl (Nat.le_of_ble_eq_true rfl) (Nat.le_of_ble_eq_true rfl) (Nat.le_refl _) (m_here hN hR hc hL (hC.1) (hC.2.2.2) (p := p) (by omega) (hP.1) ?_)
      refine E_bp (nI 41) dX12_readsIt_205 (by decide) ?_
      refine E_icmp_ne (tgt := 273) dX12_readsIt_207 (by decide) (fun cw207 => ?_) (fun cw207 => by first | exact absurd cw207 (fun z => h41 ((ch_eq (by decide)).mp z)) | exact absurd (fun z => h41 ((ch_eq (by decide)).mp z)) cw207)
      refine E_ic (nI 1) dX12_readsIt_273 (by decide) ?_
      exact E_zret dX12_readsIt_274 rfl (by decide) (by rw [show clR most c (e :: st) p s f = .inr (e :: st, p, s, f) from if_neg h41] at hQ; exact hQ I (RFm.refl I) hP)
set_option maxRecDepth 100000 in
set_option maxHeartbeats 2000000 in
theorem m_item (hN : 152 ≤ n) (hR : RS R) (hc : okc t L c) (hL : L ≤ 260) (hC : CTm t L most il I) {fr tm : Nat} (hil : il ≤ 1) (hm : most ≤ 96) (hp : p ≤ L) (hfr : fr ≤ p) (hs : s ≤ most) (hsk : (∀ e, e ∈ st → (e.2.1 ≤ s ∧ e.1 ≤ p) ∧ 1 ≤ e.2.2 ∧ e.2.2 ≤ 9)) (hf : ∀ i, i < s → f i < 2 ^ 31) (hl : st.length ≤ 2) (ht1 : 1 ≤ tm) (ht9 : tm ≤ 9) (hP : RPm st p s f I) (h37 : I 114 37 = nI fr) (h38 : I 114 38 = nI tm) (hQ : ROm I J R n Q (imR il most c st fr tm p s f)) : E g mX12_readsIt (d + 3) 0 0 104 [.ref 114, jk, jk] [] n I J R Q := by
  have hi2 : il = 1 ∨ il = 0 := by omega
  rcases hi2 with rfl | rfl
  · skip
    refine E_aload_n dX12_readsIt_104 rfl ?_
    refine E_getI dX12_readsIt_105 f_X12_242 rfl (Nat.lt_of_lt_of_le (by decide) hN) rfl ?_
    refine E.top (h37) ?_
    refine E_istore_n dX12_readsIt_108 (Nat.le_of_ble_eq_true rfl) ?_
    refine E_aload_n dX12_readsIt_109 rfl ?_
    refine E_getI dX12_readsIt_110 f_X12_245 rfl (Nat.lt_of_lt_of_le (by decide) hN) rfl ?_
    refine E.top (h38) ?_
    refine E_istore_n dX12_readsIt_113 (Nat.le_of_ble_eq_true rfl) ?_
    refine E_aload_n dX12_readsIt_114 rfl ?_
    refine E_getI dX12_readsIt_115 f_X12_248 rfl (Nat.lt_of_lt_of_le (by decide) hN) rfl ?_
    refine E.top (hC.2.2.1) ?_
    refine E_zN_eq (a := 1) (tgt := 131) dX12_readsIt_118 (by decide) (by decide) (fun cw118 => absurd cw118 (by omega)) (fun cw118 => ?_)
    refine E_aload_n dX12_readsIt_121 rfl ?_
    refine E_callV (As := []) (ci := 11) (kc' := 0) (ks' := 0) (kc := 0) (ks := 0) dX12_readsIt_122 ok_X12_readsLayer w_X12_264 i_X12_readsLayer s_X12_readsLayer rfl (by decide) rfl (Nat.lt_of_lt_of_le (by decide) hN) rfl rfl rfl (Nat.le_of_ble_eq_true rfl) (Nat.le_of_ble_eq_true rfl) (Nat.le_refl _) (m_readsLayer (d := d) hN hR hc hL hC hp hP (fun q eq I2 f2 e2 => ?_) (fun r er I2 f2 P2 e2 => ?_))
    · have hQ : ROm I J R n Q (.inl (flt 1 q)) := by unfold imR at hQ; rw [eq] at hQ; exact hQ
      refine E_zN_eq (a := 0) (tgt := 138) dX12_readsIt_125 (by decide) (by decide) (fun cw125 => ?_) (fun cw125 => absurd cw125 (by omega))
      refine E_ic (nI 0) dX12_readsIt_138 (by decide) ?_
      exact E_zret dX12_readsIt_139 rfl (by decide) (hQ I2 f2 e2)
    · have er2 := (pn_ok (il := 1) hc hp).2 r er
      have hQ : ROm I J R n Q (match finS most tm fr s r.2 (s + 1) (up1 f s r.1) with | .inl x => .inl x | .inr r2 => clR most c st r2.1 r2.2.1 r2.2.2) := by unfold imR at hQ; rw [er] at hQ; exact hQ
      refine E_if_eq (tgt := 138) dX12_readsIt_125 (by decide) (fun z => absurd z (by decide)) (fun _ => ?_)
      refine E_goto (tgt := 140) dX12_readsIt_128 (by decide) ?_
      refine E_aload_n dX12_readsIt_140 rfl ?_
      refine E_getI dX12_readsIt_141 f_X12_252 rfl (Nat.lt_of_lt_of_le (by decide) hN) rfl ?_
      refine E.top (P2.2.1) ?_
      refine E_iload_n dX12_readsIt_144 rfl ?_
      refine E_iadd dX12_readsIt_145 ?_
      refine E.top (nI_add s tm) ?_
      refine E_aload_n dX12_readsIt_146 rfl ?_
      refine E_getI dX12_readsIt_147 f_X12_255 rfl (Nat.lt_of_lt_of_le (by decide) hN) rfl ?_
      refine E.top ((hC.keep f2).2.1) ?_
      refine E_cN_le (a := s + tm) (b := most) (tgt := 161) dX12_readsIt_150 (by omega) (by omega) (by decide) (fun cw150 => ?_) (fun cw150 => ?_)
      · refine E_aload_n dX12_readsIt_161 rfl ?_
        refine E_getR dX12_readsIt_162 f_X12_71 rfl (Nat.lt_of_lt_of_le (by decide) hN) rfl (hR _ _ _ rfl) ?_
        refine E_aload_n dX12_readsIt_165 rfl ?_
        refine E_getI dX12_readsIt_166 f_X12_252 rfl (Nat.lt_of_lt_of_le (by decide) hN) rfl ?_
        refine E.top (P2.2.1) ?_
        refine E_aload_n dX12_readsIt_169 rfl ?_
        refine E_getI dX12_readsIt_170 f_X12_153 rfl (Nat.lt_of_lt_of_le (by decide) hN) rfl ?_
        refine E.top (e2) ?_
        refine E_iastN dX12_readsIt_173 rfl (Nat.lt_of_lt_of_le (by decide) hN) (by omega) ?_
        refine E_aload_n dX12_readsIt_174 rfl ?_
        refine E_aload_n dX12_readsIt_175 rfl ?_
        refine E_getI dX12_readsIt_176 f_X12_252 rfl (Nat.lt_of_lt_of_le (by decide) hN) rfl ?_
        refine E.top ((congrFun (up2_o _ 135 _ _ 114 (by decide)) 34).trans P2.2.1) ?_
        refine E_ic (nI 1) dX12_readsIt_179 (by decide) ?_
        refine E_iadd dX12_readsIt_180 ?_
        refine E.top (nI_add s 1) ?_
        refine E_putI dX12_readsIt_181 f_X12_252 rfl (Nat.lt_of_lt_of_le (by decide) hN) rfl ?_
        have PS : RPm st r.2 (s + 1) (up1 f s r.1) (up2 (up2 I2 135 s (nI r.1)) 114 34 (nI (s + 1))) := ⟨(up2_k _ _ (by decide)).trans ((congrFun (up2_o _ 135 _ _ 114 (by decide)) 8).trans P2.1), up2_s _ _ _ _, fun i hi => by
          rw [up2_o _ 114 _ _ 135 (by decide)]
          by_cases e : i = s
          · subst e
            rw [show up1 f i r.1 i = r.1 from if_pos rfl]
            exact up2_s _ _ _ _
          · rw [show up1 f s r.1 i = f i from if_neg e, up2_k _ _ e]
            exact P2.2.2.1 i (by omega), (up2_k _ _ (by decide)).trans ((congrFun (up2_o _ 135 _ _ 114 (by decide)) 36).trans P2.2.2.2.1), P2.2.2.2.2.congr ((up2_o _ 114 _ _ 136 (by decide)).trans (up2_o _ 135 _ _ 136 (by decide))) ((up2_o _ 114 _ _ 137 (by decide)).trans (up2_o _ 135 _ _ 137 (by decide))) ((up2_o _ 114 _ _ 138 (by decide)).trans (up2_o _ 135 _ _ 138 (by decide)))⟩
        refine E_aload_n dX12_readsIt_184 rfl ?_
        refine E_aload_n dX12_readsIt_185 rfl ?_
        refine E_getI dX12_readsIt_186 f_X12_252 rfl (Nat.lt_of_lt_of_le (by decide) hN) rfl ?_
        refine E.top (up2_s _ _ _ _) ?_
        refine E_ic (nI 1) dX12_readsIt_189 (by decide) ?_
        refine E_isub dX12_readsIt_190 ?_
        refine E.top (pk_sub (a := s + 1) (b := 1) (by omega)) ?_
        refine E.top (congrArg nI (Nat.add_sub_cancel (n := s) (m := 1))) ?_
        refine E_iload_n dX12_readsIt_191 rfl ?_
        refine E_iload_n dX12_readsIt_192 rfl ?_
        refine E_callV (As := [_, _, _]) (ci := 11) (kc' := 0) (ks' := 0) (kc := 0) (ks := 0) dX12_readsIt_193 ok_X12_repeats w_X12_270 i_X12_repeats s_X12_repeats rfl (by decide) rfl (Nat.lt_of_lt_of_le (by decide) hN) rfl rfl rfl (Nat.le_of_ble_eq_true rfl) (Nat.le_of_ble_eq_true rfl) (Nat.le_refl _) (m_repeats (d := d + 1) (st := st) (p := r.2) (s := s + 1) (f := up1 f s r.1) (a := s) (tm := tm) (fr := fr) hN hR (hC.keep (f2.trans ((RFm.row I2 s (nI r.1) (by decide)).trans (RFm.up (up2 I2 135 s (nI r.1)) (nI (s + 1)) (by decide))))) hm (by omega) (Nat.lt_succ_self s) ht1 ht9 PS ?_)
        cases hfi : finS most tm fr s r.2 (s + 1) (up1 f s r.1) with
        | inl x =>
          rw [hfi] at hQ
          have hQ : ROm I J R n Q (.inl x) := hQ
          intro I4 f4 e4
          refine E_zN_ne (a := 0) (tgt := 201) dX12_readsIt_196 (by decide) (by decide) (fun cw196 => absurd cw196 (by omega)) (fun cw196 => ?_)
          refine E_ic (nI 0) dX12_readsIt_199 (by decide) ?_
          exact E_zret dX12_readsIt_200 rfl (by decide) (hQ I4 ((f2.trans ((RFm.row I2 s (nI r.1) (by decide)).trans (RFm.up (up2 I2 135 s (nI r.1)) (nI (s + 1)) (by decide)))).trans f4) e4)
        | inr r2 =>
          rw [hfi] at hQ
          have hQ : ROm I J R n Q (clR most c st r2.1 r2.2.1 r2.2.2) := hQ
          obtain ⟨o1, o2, o3, o4, o5⟩ := fin_ok (B := 2 ^ 31) (L := L) hfi ht1 (show fr < r.2 by omega) (by omega) (Nat.lt_succ_self s) (fun i hi => by unfold up1; split; (have := er2.2.2; split at this <;> omega); exact hf i (by omega))
          have o6 := fin_ge hfi ht1
          have o7 := fin_p hfi
          intro I4 f4 P4
          refine E_if_ne (tgt := 201) dX12_readsIt_196 (by decide) (fun cw196 => ?_) (fun cw196 => absurd cw196 (by decide))
          refine m_close (d := d + 1) hN hR hc hL hm (hC.keep ((f2.trans ((RFm.row I2 s (nI r.1) (by decide)).trans (RFm.up (up2 I2 135 s (nI r.1)) (nI (s + 1)) (by decide)))).trans f4)) o2 o4 (fun x hx => ⟨⟨?_, ?_⟩, (hsk x hx).2⟩) o5 hl P4 (hQ.from ((f2.trans ((RFm.row I2 s (nI r.1) (by decide)).trans (RFm.up (up2 I2 135 s (nI r.1)) (nI (s + 1)) (by decide)))).trans f4))
          · have := (hsk x hx).1.1
            omega
          · have := (hsk x hx).1.2
            omega
      · refine E_aload_n dX12_readsIt_153 rfl ?_
        refine E_bp (nI 6) dX12_readsIt_154 (by decide) ?_
        refine E_iload_n dX12_readsIt_156 rfl ?_
        refine E_callV (As := [_, _]) (ci := 11) (kc' := 0) (ks' := 0) (kc := 0) (ks := 0) dX12_readsIt_157 ok_X12_wrongAt w_X12_149 i_X12_wrongAt s_X12_wrongAt rfl (by decide) rfl (Nat.lt_of_lt_of_le (by decide) hN) rfl rfl rfl (Nat.le_of_ble_eq_true rfl) (Nat.le_of_ble_eq_true rfl) (Nat.le_refl _) (m_wrongAt (k := 6) (q := fr) hN ?_)
        exact E_zret dX12_readsIt_160 rfl (by decide) (by rw [show finS most tm fr s r.2 (s + 1) (up1 f s r.1) = .inl (flt 6 fr) from if_pos (by rw [Nat.add_sub_cancel_left, Nat.one_mul]; omega)] at hQ; exact hQ _ (f2.trans (RFm.up _ _ (by decide))) (up2_s _ _ _ _))
  · skip
    refine E_aload_n dX12_readsIt_104 rfl ?_
    refine E_getI dX12_readsIt_105 f_X12_242 rfl (Nat.lt_of_lt_of_le (by decide) hN) rfl ?_
    refine E.top (h37) ?_
    refine E_istore_n dX12_readsIt_108 (Nat.le_of_ble_eq_true rfl) ?_
    refine E_aload_n dX12_readsIt_109 rfl ?_
    refine E_getI dX12_readsIt_110 f_X12_245 rfl (Nat.lt_of_lt_of_le (by decide) hN) rfl ?_
    refine E.top (h38) ?_
    refine E_istore_n dX12_readsIt_113 (Nat.le_of_ble_eq_true rfl) ?_
    refine E_aload_n dX12_readsIt_114 rfl ?_
    refine E_getI dX12_readsIt_115 f_X12_248 rfl (Nat.lt_of_lt_of_le (by decide) hN) rfl ?_
    refine E.top (hC.2.2.1) ?_
    refine E_zN_eq (a := 0) (tgt := 131) dX12_readsIt_118 (by decide) (by decide) (fun cw118 => ?_) (fun cw118 => absurd cw118 (by omega))
    refine E_aload_n dX12_readsIt_131 rfl ?_
    refine E_callV (As := []) (ci := 11) (kc' := 0) (ks' := 0) (kc := 0) (ks := 0) dX12_readsIt_132 ok_X12_readsDeed w_X12_267 i_X12_readsDeed s_X12_readsDeed rfl (by decide) rfl (Nat.lt_of_lt_of_le (by decide) hN) rfl rfl rfl (Nat.le_of_ble_eq_true rfl) (Nat.le_of_ble_eq_true rfl) (Nat.le_refl _) (m_readsDeed (d := d) hN hR hc hL hC hp hP (fun q eq I2 f2 e2 => ?_) (fun r er I2 f2 P2 e2 => ?_))
    · have hQ : ROm I J R n Q (.inl (flt 1 q)) := by unfold imR at hQ; rw [eq] at hQ; exact hQ
      refine E_zN_ne (a := 0) (tgt := 140) dX12_readsIt_135 (by decide) (by decide) (fun cw135 => absurd cw135 (by omega)) (fun cw135 => ?_)
      refine E_ic (nI 0) dX12_readsIt_138 (by decide) ?_
      exact E_zret dX12_readsIt_139 rfl (by decide) (hQ I2 f2 e2)
    · have er2 := (pn_ok (il := 0) hc hp).2 r er
      have hQ : ROm I J R n Q (match finS most tm fr s r.2 (s + 1) (up1 f s r.1) with | .inl x => .inl x | .inr r2 => clR most c st r2.1 r2.2.1 r2.2.2) := by unfold imR at hQ; rw [er] at hQ; exact hQ
      refine E_if_ne (tgt := 140) dX12_readsIt_135 (by decide) (fun _ => ?_) (fun z => absurd z (by decide))
      refine E_aload_n dX12_readsIt_140 rfl ?_
      refine E_getI dX12_readsIt_141 f_X12_252 rfl (Nat.lt_of_lt_of_le (by decide) hN) rfl ?_
      refine E.top (P2.2.1) ?_
      refine E_iload_n dX12_readsIt_144 rfl ?_
      refine E_iadd dX12_readsIt_145 ?_
      refine E.top (nI_add s tm) ?_
      refine E_aload_n dX12_readsIt_146 rfl ?_
      refine E_getI dX12_readsIt_147 f_X12_255 rfl (Nat.lt_of_lt_of_le (by decide) hN) rfl ?_
      refine E.top ((hC.keep f2).2.1) ?_
      refine E_cN_le (a := s + tm) (b := most) (tgt := 161) dX12_readsIt_150 (by omega) (by omega) (by decide) (fun cw150 => ?_) (fun cw150 => ?_)
      · refine E_aload_n dX12_readsIt_161 rfl ?_
        refine E_getR dX12_readsIt_162 f_X12_71 rfl (Nat.lt_of_lt_of_le (by decide) hN) rfl (hR _ _ _ rfl) ?_
        refine E_aload_n dX12_readsIt_165 rfl ?_
        refine E_getI dX12_readsIt_166 f_X12_252 rfl (Nat.lt_of_lt_of_le (by decide) hN) rfl ?_
        refine E.top (P2.2.1) ?_
        refine E_aload_n dX12_readsIt_169 rfl ?_
        refine E_getI dX12_readsIt_170 f_X12_153 rfl (Nat.lt_of_lt_of_le (by decide) hN) rfl ?_
        refine E.top (e2) ?_
        refine E_iastN dX12_readsIt_173 rfl (Nat.lt_of_lt_of_le (by decide) hN) (by omega) ?_
        refine E_aload_n dX12_readsIt_174 rfl ?_
        refine E_aload_n dX12_readsIt_175 rfl ?_
        refine E_getI dX12_readsIt_176 f_X12_252 rfl (Nat.lt_of_lt_of_le (by decide) hN) rfl ?_
        refine E.top ((congrFun (up2_o _ 135 _ _ 114 (by decide)) 34).trans P2.2.1) ?_
        refine E_ic (nI 1) dX12_readsIt_179 (by decide) ?_
        refine E_iadd dX12_readsIt_180 ?_
        refine E.top (nI_add s 1) ?_
        refine E_putI dX12_readsIt_181 f_X12_252 rfl (Nat.lt_of_lt_of_le (by decide) hN) rfl ?_
        have PS : RPm st r.2 (s + 1) (up1 f s r.1) (up2 (up2 I2 135 s (nI r.1)) 114 34 (nI (s + 1))) := ⟨(up2_k _ _ (by decide)).trans ((congrFun (up2_o _ 135 _ _ 114 (by decide)) 8).trans P2.1), up2_s _ _ _ _, fun i hi => by
          rw [up2_o _ 114 _ _ 135 (by decide)]
          by_cases e : i = s
          · subst e
            rw [show up1 f i r.1 i = r.1 from if_pos rfl]
            exact up2_s _ _ _ _
          · rw [show up1 f s r.1 i = f i from if_neg e, up2_k _ _ e]
            exact P2.2.2.1 i (by omega), (up2_k _ _ (by decide)).trans ((congrFun (up2_o _ 135 _ _ 114 (by decide)) 36).trans P2.2.2.2.1), P2.2.2.2.2.congr ((up2_o _ 114 _ _ 136 (by decide)).trans (up2_o _ 135 _ _ 136 (by decide))) ((up2_o _ 114 _ _ 137 (by decide)).trans (up2_o _ 135 _ _ 137 (by decide))) ((up2_o _ 114 _ _ 138 (by decide)).trans (up2_o _ 135 _ _ 138 (by decide)))⟩
        refine E_aload_n dX12_readsIt_184 rfl ?_
        refine E_aload_n dX12_readsIt_185 rfl ?_
        refine E_getI dX12_readsIt_186 f_X12_252 rfl (Nat.lt_of_lt_of_le (by decide) hN) rfl ?_
        refine E.top (up2_s _ _ _ _) ?_
        refine E_ic (nI 1) dX12_readsIt_189 (by decide) ?_
        refine E_isub dX12_readsIt_190 ?_
        refine E.top (pk_sub (a := s + 1) (b := 1) (by omega)) ?_
        refine E.top (congrArg nI (Nat.add_sub_cancel (n := s) (m := 1))) ?_
        refine E_iload_n dX12_readsIt_191 rfl ?_
        refine E_iload_n dX12_readsIt_192 rfl ?_
        refine E_callV (As := [_, _, _]) (ci := 11) (kc' := 0) (ks' := 0) (kc := 0) (ks := 0) dX12_readsIt_193 ok_X12_repeats w_X12_270 i_X12_repeats s_X12_repeats rfl (by decide) rfl (Nat.lt_of_lt_of_le (by decide) hN) rfl rfl rfl (Nat.le_of_ble_eq_true rfl) (Nat.le_of_ble_eq_true rfl) (Nat.le_refl _) (m_repeats (d := d + 1) (st := st) (p := r.2) (s := s + 1) (f := up1 f s r.1) (a := s) (tm := tm) (fr := fr) hN hR (hC.keep (f2.trans ((RFm.row I2 s (nI r.1) (by decide)).trans (RFm.up (up2 I2 135 s (nI r.1)) (nI (s + 1)) (by decide))))) hm (by omega) (Nat.lt_succ_self s) ht1 ht9 PS ?_)
        cases hfi : finS most tm fr s r.2 (s + 1) (up1 f s r.1) with
        | inl x =>
          rw [hfi] at hQ
          have hQ : ROm I J R n Q (.inl x) := hQ
          intro I4 f4 e4
          refine E_zN_ne (a := 0) (tgt := 201) dX12_readsIt_196 (by decide) (by decide) (fun cw196 => absurd cw196 (by omega)) (fun cw196 => ?_)
          refine E_ic (nI 0) dX12_readsIt_199 (by decide) ?_
          exact E_zret dX12_readsIt_200 rfl (by decide) (hQ I4 ((f2.trans ((RFm.row I2 s (nI r.1) (by decide)).trans (RFm.up (up2 I2 135 s (nI r.1)) (nI (s + 1)) (by decide)))).trans f4) e4)
        | inr r2 =>
          rw [hfi] at hQ
          have hQ : ROm I J R n Q (clR most c st r2.1 r2.2.1 r2.2.2) := hQ
          obtain ⟨o1, o2, o3, o4, o5⟩ := fin_ok (B := 2 ^ 31) (L := L) hfi ht1 (show fr < r.2 by omega) (by omega) (Nat.lt_succ_self s) (fun i hi => by unfold up1; split; (have := er2.2.2; split at this <;> omega); exact hf i (by omega))
          have o6 := fin_ge hfi ht1
          have o7 := fin_p hfi
          intro I4 f4 P4
          refine E_if_ne (tgt := 201) dX12_readsIt_196 (by decide) (fun cw196 => ?_) (fun cw196 => absurd cw196 (by decide))
          refine m_close (d := d + 1) hN hR hc hL hm (hC.keep ((f2.trans ((RFm.row I2 s (nI r.1) (by decide)).trans (RFm.up (up2 I2 135 s (nI r.1)) (nI (s + 1)) (by decide)))).trans f4)) o2 o4 (fun x hx => ⟨⟨?_, ?_⟩, (hsk x hx).2⟩) o5 hl P4 (hQ.from ((f2.trans ((RFm.row I2 s (nI r.1) (by decide)).trans (RFm.up (up2 I2 135 s (nI r.1)) (nI (s + 1)) (by decide)))).trans f4))
          · have := (hsk x hx).1.1
            omega
          · have := (hsk x hx).1.2
            omega
      · refine E_aload_n dX12_readsIt_153 rfl ?_
        refine E_bp (nI 6) dX12_readsIt_154 (by decide) ?_
        refine E_iload_n dX12_readsIt_156 rfl ?_
        refine E_callV (As := [_, _]) (ci := 11) (kc' := 0) (ks' := 0) (kc := 0) (ks := 0) dX12_readsIt_157 ok_X12_wrongAt w_X12_149 i_X12_wrongAt s_X12_wrongAt rfl (by decide) rfl (Nat.lt_of_lt_of_le (by decide) hN) rfl rfl rfl (Nat.le_of_ble_eq_true rfl) (Nat.le_of_ble_eq_true rfl) (Nat.le_refl _) (m_wrongAt (k := 6) (q := fr) hN ?_)
        exact E_zret dX12_readsIt_160 rfl (by decide) (by rw [show finS most tm fr s r.2 (s + 1) (up1 f s r.1) = .inl (flt 6 fr) from if_pos (by rw [Nat.add_sub_cancel_left, Nat.one_mul]; omega)] at hQ; exact hQ _ (f2.trans (RFm.up _ _ (by decide))) (up2_s _ _ _ _))
theorem SKm.low {I I' : IM} : ∀ {st : SK}, SKm I st → (∀ j, j < st.length → I' 136 j = I 136 j ∧ I' 137 j = I 137 j ∧ I' 138 j = I 138 j) → SKm I' st
  | [], _, _ => trivial
  | e :: st, h, k => by
    have k0 := k st.length (Nat.lt_succ_self _)
    exact ⟨k0.1.trans h.1, k0.2.1.trans h.2.1, k0.2.2.trans h.2.2.1, SKm.low h.2.2.2 (fun j hj => k j (Nat.lt_succ_of_lt hj))⟩
theorem tmR_ok {il p : Nat} {t c : Nat → Nat} {L : Nat} (hil : il ≤ 1) (hc : okc t L c) (hp : p ≤ L) : p ≤ (tmR il c p).2 ∧ (tmR il c p).2 ≤ L ∧ (tmR il c p).1 ≤ 9 := by
  by_cases h : (tmS il c p).1 = 0
  · have hi : il = 1 ∨ il = 0 := by omega
    rcases hi with rfl | rfl
    · rw [tmR_1]
      exact tm_ok hc hp
    · rw [(tmR_z h).2.1]
      exact ⟨Nat.le_refl _, hp, by show 1 ≤ 9; decide⟩
  · rw [tmR_0 hil h]
    exact tm_ok hc hp
set_option maxRecDepth 100000 in
set_option maxHeartbeats 2000000 in
theorem m_open (hN : 152 ≤ n) (hR : RS R) (hc : okc t L c) (hL : L ≤ 260) (hil : il ≤ 1) (hm : most ≤ 96) : ∀ (k : Nat), ∀ {I : IM} {p : Nat} {st : SK}, CTm t L most il I → p ≤ L → s ≤ most → (∀ e, e ∈ st → (e.2.1 ≤ s ∧ e.1 ≤ p) ∧ 1 ≤ e.2.2 ∧ e.2.2 ≤ 9) → (∀ i, i < s → f i < 2 ^ 31) → st.length + k = 2 → (tmR il c p).1 ≠ 0 → RPm st (tmR il c p).2 s f I → I 114 37 = nI p → I 114 38 = nI (tmR il c p).1 → ROm I J R n Q (itR il most c k st p s f) → E g mX12_readsIt (d + 3) 0 0 9 [.ref 114, jk, jk] [] n I J R Q := by
  intro k
  induction k with
  | zero =>
    intro I p st hC hp hs hsk hf hl h0 hP h37 h38 hQ
    obtain ⟨t1, t2, t3⟩ := tmR_ok hil hc hp
    have hsk2 : ∀ e, e ∈ st → (e.2.1 ≤ s ∧ e.1 ≤ (tmR il c p).2) ∧ 1 ≤ e.2.2 ∧ e.2.2 ≤ 9 := fun e he => ⟨⟨(hsk e he).1.1, by have := (hsk e he).1.2; omega⟩, (hsk e he).2⟩
    refine E_aload_n dX12_readsIt_9 rfl ?_
    refine E_callV (As := []) (ci := 11) (kc' := 0) (ks' := 0) (kc := 0) (ks := 0) dX12_readsIt_10 ok_X12_here w_X12_142 i_X12_here s_X12_here rfl (by decide) rfl (Nat.lt_of_lt_of_le (by decide) hN) rfl rfl rfl (Nat.le_of_ble_eq_true rfl) (Nat.le_of_ble_eq_true rfl) (Nat.le_refl _) (m_here hN hR hc hL (hC.1) (hC.2.2.2) (p := (tmR il c p).2) (by omega) (hP.1) ?_)
    refine E_bp (nI 40) dX12_readsIt_13 (by decide) ?_
    refine E_icmp_ne (tgt := 104) dX12_readsIt_15 (by decide) (fun cw15 => ?_) (fun cw15 => ?_)
    · have h40 : ¬ c (tmR il c p).2 = 40 := fun z => cw15 ((ch_eq (by decide)).mpr z)
      refine m_item (d := d) hN hR hc hL hC hil hm t2 t1 hs hsk2 hf (by omega) (by omega) t3 hP h37 h38 ?_
      unfold itR at hQ
      rw [oq_n h0 h40] at hQ
      exact hQ
    · refine E_aload_n dX12_readsIt_18 rfl ?_
      refine E_getI dX12_readsIt_19 f_X12_261 rfl (Nat.lt_of_lt_of_le (by decide) hN) rfl ?_
      refine E.top (hP.2.2.2.1) ?_
      refine E_ic (nI 2) dX12_readsIt_22 (by decide) ?_
      refine E_cN_ne (a := st.length) (b := 2) (tgt := 36) dX12_readsIt_23 (by omega) (by decide) (by decide) (fun cw23 => absurd cw23 (by omega)) (fun cw23 => ?_)
      refine E_aload_n dX12_readsIt_26 rfl ?_
      refine E_ic (nI 5) dX12_readsIt_27 (by decide) ?_
      refine E_aload_n dX12_readsIt_28 rfl ?_
      refine E_getI dX12_readsIt_29 f_X12_136 rfl (Nat.lt_of_lt_of_le (by decide) hN) rfl ?_
      refine E.top (hP.1) ?_
      refine E_callV (As := [_, _]) (ci := 11) (kc' := 0) (ks' := 0) (kc := 0) (ks := 0) dX12_readsIt_32 ok_X12_wrongAt w_X12_149 i_X12_wrongAt s_X12_wrongAt rfl (by decide) rfl (Nat.lt_of_lt_of_le (by decide) hN) rfl rfl rfl (Nat.le_of_ble_eq_true rfl) (Nat.le_of_ble_eq_true rfl) (Nat.le_refl _) (m_wrongAt (k := 5) (q := (tmR il c p).2) hN ?_)
      exact E_zret dX12_readsIt_35 rfl (by decide) (by unfold itR at hQ; rw [oq_0 h0 ((ch_eq (by decide)).mp cw15)] at hQ; exact hQ _ (RFm.up _ _ (by decide)) (up2_s _ _ _ _))
  | succ k ih =>
    intro I p st hC hp hs hsk hf hl h0 hP h37 h38 hQ
    obtain ⟨t1, t2, t3⟩ := tmR_ok hil hc hp
    have hsk2 : ∀ e, e ∈ st → (e.2.1 ≤ s ∧ e.1 ≤ (tmR il c p).2) ∧ 1 ≤ e.2.2 ∧ e.2.2 ≤ 9 := fun e he => ⟨⟨(hsk e he).1.1, by have := (hsk e he).1.2; omega⟩, (hsk e he).2⟩
    refine E_aload_n dX12_readsIt_9 rfl ?_
    refine E_callV (As := []) (ci := 11) (kc' := 0) (ks' := 0) (kc := 0) (ks := 0) dX12_readsIt_10 ok_X12_here w_X12_142 i_X12_here s_X12_here rfl (by decide) rfl (Nat.lt_of_lt_of_le (by decide) hN) rfl rfl rfl (Nat.le_of_ble_eq_true rfl) (Nat.le_of_ble_eq_true rfl) (Nat.le_refl _) (m_here hN hR hc hL (hC.1) (hC.2.2.2) (p := (tmR il c p).2) (by omega) (hP.1) ?_)
    refine E_bp (nI 40) dX12_readsIt_13 (by decide) ?_
    refine E_icmp_ne (tgt := 104) dX12_readsIt_15 (by decide) (fun cw15 => ?_) (fun cw15 => ?_)
    · have h40 : ¬ c (tmR il c p).2 = 40 := fun z => cw15 ((ch_eq (by decide)).mpr z)
      refine m_item (d := d) hN hR hc hL hC hil hm t2 t1 hs hsk2 hf (by omega) (by omega) t3 hP h37 h38 ?_
      unfold itR at hQ
      rw [oq_n h0 h40] at hQ
      exact hQ
    · refine E_aload_n dX12_readsIt_18 rfl ?_
      refine E_getI dX12_readsIt_19 f_X12_261 rfl (Nat.lt_of_lt_of_le (by decide) hN) rfl ?_
      refine E.top (hP.2.2.2.1) ?_
      refine E_ic (nI 2) dX12_readsIt_22 (by decide) ?_
      refine E_cN_ne (a := st.length) (b := 2) (tgt := 36) dX12_readsIt_23 (by omega) (by decide) (by decide) (fun cw23 => ?_) (fun cw23 => absurd cw23 (by omega))
      refine E_aload_n dX12_readsIt_36 rfl ?_
      refine E_getR dX12_readsIt_37 f_X12_74 rfl (Nat.lt_of_lt_of_le (by decide) hN) rfl (hR _ _ _ rfl) ?_
      refine E_aload_n dX12_readsIt_40 rfl ?_
      refine E_getI dX12_readsIt_41 f_X12_261 rfl (Nat.lt_of_lt_of_le (by decide) hN) rfl ?_
      refine E.top (hP.2.2.2.1) ?_
      refine E_aload_n dX12_readsIt_44 rfl ?_
      refine E_getI dX12_readsIt_45 f_X12_242 rfl (Nat.lt_of_lt_of_le (by decide) hN) rfl ?_
      refine E.top (h37) ?_
      refine E_iastN dX12_readsIt_48 rfl (Nat.lt_of_lt_of_le (by decide) hN) (by omega) ?_
      refine E_aload_n dX12_readsIt_49 rfl ?_
      refine E_getR dX12_readsIt_50 f_X12_77 rfl (Nat.lt_of_lt_of_le (by decide) hN) rfl (hR _ _ _ rfl) ?_
      refine E_aload_n dX12_readsIt_53 rfl ?_
      refine E_getI dX12_readsIt_54 f_X12_261 rfl (Nat.lt_of_lt_of_le (by decide) hN) rfl ?_
      refine E.top ((congrFun (up2_o I 136 _ _ 114 (by decide)) 36).trans hP.2.2.2.1) ?_
      refine E_aload_n dX12_readsIt_57 rfl ?_
      refine E_getI dX12_readsIt_58 f_X12_252 rfl (Nat.lt_of_lt_of_le (by decide) hN) rfl ?_
      refine E.top ((congrFun (up2_o I 136 _ _ 114 (by decide)) 34).trans hP.2.1) ?_
      refine E_iastN dX12_readsIt_61 rfl (Nat.lt_of_lt_of_le (by decide) hN) (by omega) ?_
      refine E_aload_n dX12_readsIt_62 rfl ?_
      refine E_getR dX12_readsIt_63 f_X12_80 rfl (Nat.lt_of_lt_of_le (by decide) hN) rfl (hR _ _ _ rfl) ?_
      refine E_aload_n dX12_readsIt_66 rfl ?_
      refine E_getI dX12_readsIt_67 f_X12_261 rfl (Nat.lt_of_lt_of_le (by decide) hN) rfl ?_
      refine E.top (((congrFun (up2_o _ 137 _ _ 114 (by decide)) 36).trans (congrFun (up2_o I 136 _ _ 114 (by decide)) 36)).trans hP.2.2.2.1) ?_
      refine E_aload_n dX12_readsIt_70 rfl ?_
      refine E_getI dX12_readsIt_71 f_X12_245 rfl (Nat.lt_of_lt_of_le (by decide) hN) rfl ?_
      refine E.top (((congrFun (up2_o _ 137 _ _ 114 (by decide)) 38).trans (congrFun (up2_o I 136 _ _ 114 (by decide)) 38)).trans h38) ?_
      refine E_iastN dX12_readsIt_74 rfl (Nat.lt_of_lt_of_le (by decide) hN) (by omega) ?_
      refine E_aload_n dX12_readsIt_75 rfl ?_
      refine E_aload_n dX12_readsIt_76 rfl ?_
      refine E_getI dX12_readsIt_77 f_X12_261 rfl (Nat.lt_of_lt_of_le (by decide) hN) rfl ?_
      refine E.top (((congrFun (up2_o _ 138 _ _ 114 (by decide)) 36).trans ((congrFun (up2_o _ 137 _ _ 114 (by decide)) 36).trans (congrFun (up2_o I 136 _ _ 114 (by decide)) 36))).trans hP.2.2.2.1) ?_
      refine E_ic (nI 1) dX12_readsIt_80 (by decide) ?_
      refine E_iadd dX12_readsIt_81 ?_
      refine E.top (nI_add (st.length) 1) ?_
      refine E_putI dX12_readsIt_82 f_X12_261 rfl (Nat.lt_of_lt_of_le (by decide) hN) rfl ?_
      refine E_aload_n dX12_readsIt_85 rfl ?_
      refine E_aload_n dX12_readsIt_86 rfl ?_
      refine E_getI dX12_readsIt_87 f_X12_136 rfl (Nat.lt_of_lt_of_le (by decide) hN) rfl ?_
      refine E.top ((up2_k _ _ (by decide)).trans (((congrFun (up2_o _ 138 _ _ 114 (by decide)) 8).trans ((congrFun (up2_o _ 137 _ _ 114 (by decide)) 8).trans (congrFun (up2_o I 136 _ _ 114 (by decide)) 8))).trans hP.1)) ?_
      refine E_ic (nI 1) dX12_readsIt_90 (by decide) ?_
      refine E_iadd dX12_readsIt_91 ?_
      refine E.top (nI_add ((tmR il c p).2) 1) ?_
      refine E_putI dX12_readsIt_92 f_X12_136 rfl (Nat.lt_of_lt_of_le (by decide) hN) rfl ?_
      have h40 := (ch_eq (by decide)).mp cw15
      have tl := hc.lt (p := (tmR il c p).2) (by omega)
      have FO : RFm I (up2 (up2 (up2 (up2 (up2 I 136 st.length (nI p)) 137 st.length (nI s)) 138 st.length (nI (tmR il c p).1)) 114 36 (nI (st.length + 1))) 114 8 (nI ((tmR il c p).2 + 1))) := ((RFm.row I st.length (nI p) (by decide)).trans ((RFm.row _ st.length (nI s) (by decide)).trans ((RFm.row _ st.length (nI (tmR il c p).1) (by decide)).trans ((RFm.up _ (nI (st.length + 1)) (by decide)).trans (RFm.up _ (nI ((tmR il c p).2 + 1)) (by decide))))))
      have K0 : SKm I st := hP.2.2.2.2
      have KO : ∀ x, x ≠ 136 → x ≠ 137 → x ≠ 138 → x ≠ 114 → (up2 (up2 (up2 (up2 (up2 I 136 st.length (nI p)) 137 st.length (nI s)) 138 st.length (nI (tmR il c p).1)) 114 36 (nI (st.length + 1))) 114 8 (nI ((tmR il c p).2 + 1))) x = I x := fun x a1 a2 a3 a4 => (up2_o _ 114 _ _ x a4).trans ((up2_o _ 114 _ _ x a4).trans ((up2_o _ 138 _ _ x a3).trans ((up2_o _ 137 _ _ x a2).trans (up2_o _ 136 _ _ x a1))))
      have KS : SKm (up2 (up2 (up2 (up2 (up2 I 136 st.length (nI p)) 137 st.length (nI s)) 138 st.length (nI (tmR il c p).1)) 114 36 (nI (st.length + 1))) 114 8 (nI ((tmR il c p).2 + 1))) ((p, s, (tmR il c p).1) :: st) := ⟨(congrFun ((up2_o _ 114 _ _ 136 (by decide)).trans ((up2_o _ 114 _ _ 136 (by decide)).trans ((up2_o _ 138 _ _ 136 (by decide)).trans (up2_o _ 137 _ _ 136 (by decide))))) _).trans (up2_s _ _ _ _), (congrFun ((up2_o _ 114 _ _ 137 (by decide)).trans ((up2_o _ 114 _ _ 137 (by decide)).trans (up2_o _ 138 _ _ 137 (by decide)))) _).trans (up2_s _ _ _ _), (congrFun ((up2_o _ 114 _ _ 138 (by decide)).trans (up2_o _ 114 _ _ 138 (by decide))) _).trans (up2_s _ _ _ _), SKm.low K0 (fun j hj => ⟨(congrFun ((up2_o _ 114 _ _ 136 (by decide)).trans ((up2_o _ 114 _ _ 136 (by decide)).trans ((up2_o _ 138 _ _ 136 (by decide)).trans (up2_o _ 137 _ _ 136 (by decide))))) j).trans (up2_k _ _ (by omega)), (congrFun ((up2_o _ 114 _ _ 137 (by decide)).trans ((up2_o _ 114 _ _ 137 (by decide)).trans (up2_o _ 138 _ _ 137 (by decide)))) j).trans ((up2_k _ _ (by omega)).trans (congrFun (up2_o _ 136 _ _ 137 (by decide)) j)), (congrFun ((up2_o _ 114 _ _ 138 (by decide)).trans (up2_o _ 114 _ _ 138 (by decide))) j).trans ((up2_k _ _ (by omega)).trans (congrFun ((up2_o _ 137 _ _ 138 (by decide)).trans (up2_o _ 136 _ _ 138 (by decide))) j))⟩)⟩
      have PO : RPm ((p, s, (tmR il c p).1) :: st) ((tmR il c p).2 + 1) s f (up2 (up2 (up2 (up2 (up2 I 136 st.length (nI p)) 137 st.length (nI s)) 138 st.length (nI (tmR il c p).1)) 114 36 (nI (st.length + 1))) 114 8 (nI ((tmR il c p).2 + 1))) := ⟨up2_s _ _ _ _, (up2_k _ _ (by decide)).trans ((up2_k _ _ (by decide)).trans ((congrFun ((up2_o _ 138 _ _ 114 (by decide)).trans ((up2_o _ 137 _ _ 114 (by decide)).trans (up2_o _ 136 _ _ 114 (by decide)))) 34).trans hP.2.1)), fun i hi => (congrFun (KO 135 (by decide) (by decide) (by decide) (by decide)) i).trans (hP.2.2.1 i hi), (up2_k _ _ (by decide)).trans (up2_s _ _ _ _), KS⟩
      refine E_aload_n dX12_readsIt_95 rfl ?_
      refine E_callV (As := []) (ci := 11) (kc' := 0) (ks' := 0) (kc := 0) (ks := 0) dX12_readsIt_96 ok_X12_readsTimes w_X12_258 i_X12_readsTimes s_X12_readsTimes rfl (by decide) rfl (Nat.lt_of_lt_of_le (by decide) hN) rfl rfl rfl (Nat.le_of_ble_eq_true rfl) (Nat.le_of_ble_eq_true rfl) (Nat.le_refl _) (m_readsTimes (d := d + 1) (p := (tmR il c p).2 + 1) (s := s) (f := f) (st := (p, s, (tmR il c p).1) :: st) hN hR hc hL (hC.keep FO) hil (by omega) PO (fun e0 I4 f4 e4 => ?_) (fun e0 I4 f4 P4 a4 b4 => ?_))
      · skip
        refine E_zN_ne (a := 0) (tgt := 9) dX12_readsIt_99 (by decide) (by decide) (fun cw99 => absurd cw99 (by omega)) (fun cw99 => ?_)
        refine E_ic (nI 0) dX12_readsIt_102 (by decide) ?_
        exact E_zret dX12_readsIt_103 rfl (by decide) (by unfold itR at hQ; rw [oq_s h0 h40, oq_z e0] at hQ; exact hQ I4 (FO.trans f4) e4)
      · skip
        refine E_zN_ne (a := 1) (tgt := 9) dX12_readsIt_99 (by decide) (by decide) (fun cw99 => ?_) (fun cw99 => absurd cw99 (by omega))
        unfold itR at hQ
        rw [oq_s h0 h40] at hQ
        refine ih (p := (tmR il c p).2 + 1) (st := (p, s, (tmR il c p).1) :: st) (hC.keep (FO.trans f4)) (by omega) hs (fun e he => ?_) hf (by rw [List.length_cons]; omega) e0 P4 a4 b4 (ROm.from (FO.trans f4) hQ)
        rcases List.mem_cons.mp he with z | z
        · subst z
          exact ⟨⟨Nat.le_refl _, by show p ≤ (tmR il c p).2 + 1; omega⟩, by show 1 ≤ (tmR il c p).1; omega, t3⟩
        · exact ⟨⟨(hsk e z).1.1, by have := (hsk e z).1.2; omega⟩, (hsk e z).2⟩
set_option maxRecDepth 100000 in
set_option maxHeartbeats 2000000 in
theorem m_readsIt (hN : 152 ≤ n) (hR : RS R) (hc : okc t L c) (hL : L ≤ 260) (hC : CTm t L most il I) {k : Nat} (hil : il ≤ 1) (hm : most ≤ 96) (hp : p ≤ L) (hs : s ≤ most) (hsk : (∀ e, e ∈ st → (e.2.1 ≤ s ∧ e.1 ≤ p) ∧ 1 ≤ e.2.2 ∧ e.2.2 ≤ 9)) (hf : ∀ i, i < s → f i < 2 ^ 31) (hl : st.length + k = 2) (hP : RPm st p s f I) (hQ : ROm I J R n Q (itR il most c k st p s f)) : E g mX12_readsIt (d + 3) 0 0 0 (ent 3 [.ref 114]) [] n I J R Q := by
  refine E_aload_n dX12_readsIt_0 rfl ?_
  refine E_callV (As := []) (ci := 11) (kc' := 0) (ks' := 0) (kc := 0) (ks := 0) dX12_readsIt_1 ok_X12_readsTimes w_X12_258 i_X12_readsTimes s_X12_readsTimes rfl (by decide) rfl (Nat.lt_of_lt_of_le (by decide) hN) rfl rfl rfl (Nat.le_of_ble_eq_true rfl) (Nat.le_of_ble_eq_true rfl) (Nat.le_refl _) (m_readsTimes (d := d + 1) (p := p) (s := s) (f := f) (st := st) hN hR hc hL hC hil hp hP (fun e0 I4 f4 e4 => ?_) (fun e0 I4 f4 P4 a4 b4 => ?_))
  · skip
    refine E_zN_ne (a := 0) (tgt := 9) dX12_readsIt_4 (by decide) (by decide) (fun cw4 => absurd cw4 (by omega)) (fun cw4 => ?_)
    refine E_ic (nI 0) dX12_readsIt_7 (by decide) ?_
    exact E_zret dX12_readsIt_8 rfl (by decide) (by unfold itR at hQ; rw [oq_z e0] at hQ; exact hQ I4 f4 e4)
  · skip
    refine E_zN_ne (a := 1) (tgt := 9) dX12_readsIt_4 (by decide) (by decide) (fun cw4 => ?_) (fun cw4 => absurd cw4 (by omega))
    exact m_open (d := d) hN hR hc hL hil hm k (hC.keep f4) hp hs hsk hf hl e0 P4 a4 b4 (hQ.from f4)
end PRoundsM3
