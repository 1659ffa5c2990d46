/-! ===== the law's conditions, as the class reads them ===== -/
theorem cm_wh {x : Nat} (h : ¬ cmL x = 0) : whc (cmL x) = x ∧ (x = 60 ∨ x = 62 ∨ x = 61) := by
  have key : ∀ x, x < 256 → ¬ cmL x = 0 → whc (cmL x) = x ∧ (x = 60 ∨ x = 62 ∨ x = 61) := by decide +kernel
  exact key x (cm_lt h).1 h
theorem cm_no {x : Nat} (h : cmL x = 0) : ¬ x = 60 ∧ ¬ x = 62 ∧ ¬ x = 61 := by
  refine ⟨fun z => ?_, fun z => ?_, fun z => ?_⟩ <;> (subst z; revert h; decide)
def XTS (t c : Nat → Nat) (L k : Nat) : Prop := ∀ (g : GL) (d n : Nat) (I : IM) (J : JM) (R : RM) (Q : PQ) (q : TS), 2 * k + 7 ≤ d → 152 ≤ n → RS R → CLx t L I R → PLx q I → q.1 ≤ L → q.2.1 ≤ q.1 → CDok q.2.2 q.2.1 → OXL I J R n Q (tkL c k q) → E g mX4_test d 0 0 0 (ent 4 [.ref 11, .int (nI (6 - k))]) [] n I J R Q
def XCH (t c : Nat → Nat) (L k : Nat) : Prop := ∀ (g : GL) (d n : Nat) (I : IM) (J : JM) (R : RM) (Q : PQ) (q : TS), 2 * k + 8 ≤ d → 152 ≤ n → RS R → CLx t L I R → PLx q I → q.1 ≤ L → q.2.1 ≤ q.1 → CDok q.2.2 q.2.1 → OXL I J R n Q (chL c k q) → E g mX4_choice d 0 0 0 (ent 6 [.ref 11, .int (nI (6 - k))]) [] n I J R Q
theorem ln_s (s : Nat) : nI s = lnI (s + 1) := ((if_neg (Nat.succ_ne_zero s)).trans (by rw [Nat.add_sub_cancel])).symm
section PLawX3
variable {g : GL} {d n : Nat} {I : IM} {J : JM} {R : RM} {Q : PQ} {t c : Nat → Nat} {L : Nat} {q : TS}
set_option maxRecDepth 100000 in
set_option maxHeartbeats 2000000 in
theorem x_test1 {k : Nat} (hk : k ≤ 6) (hc : okc t L c) (hL : L ≤ 240) (S1 : ¬ k = 0 → XCH t c L (k - 1)) (S2 : ¬ k = 0 → XTS t c L (k - 1)) : XTS t c L k := by
  intro g d n I J R Q q hd hN hR hC hP hq hs hcd hQ
  have SM := x_sum hc hL k hk
  have ek : tkL c k q = (if c q.1 = 33 then (if k = 0 then .inl (flt 5 q.1) else bnd (tkL c (k - 1) (q.1 + 1, q.2)) (fun r => .inr (emL 10 r))) else if c q.1 = 40 then (if k = 0 then .inl (flt 5 q.1) else bnd (chL c (k - 1) (q.1 + 1, q.2)) (psL c 41)) else cpL c k q) := by
    cases k with
    | zero => rfl
    | succ k => rfl
  by_cases c1 : c q.1 = 33
  · have hp := hc.lt (p := q.1) (by omega)
    by_cases h0 : k = 0
    · skip
      refine E_aload_n dX4_test_0 rfl ?_
      refine E_callV (As := []) (ci := 4) (kc' := 0) (ks' := 0) (kc := 0) (ks := 0) dX4_test_1 ok_X4_next w_X4_51 i_X4_next s_X4_next rfl (by decide) rfl (Nat.lt_of_lt_of_le (by decide) hN) rfl rfl rfl (Nat.le_of_ble_eq_true rfl) (Nat.le_of_ble_eq_true rfl) (by omega) (x_nextL (d := 0) hN hR hc hL hC (p := q.1) (by omega) (hP.1) ?_)
      refine E_istore_n dX4_test_4 (Nat.le_of_ble_eq_true rfl) ?_
      refine E_iload_n dX4_test_5 rfl ?_
      refine E_bp (nI 33) dX4_test_6 (by decide) ?_
      refine E_icmp_eq (tgt := 17) dX4_test_8 (by decide) (fun cw8 => ?_) (fun cw8 => by first | exact absurd cw8 ((ch_eq (k := 33) (by decide)).mpr c1) | exact absurd ((ch_eq (k := 33) (by decide)).mpr c1) cw8)
      refine E_iload_n dX4_test_17 rfl ?_
      refine E_bp (nI 6) dX4_test_18 (by decide) ?_
      refine E_cN_lt (a := 6 - k) (b := 6) (tgt := 29) dX4_test_20 (by omega) (by decide) (by decide) (fun cw20 => absurd cw20 (by omega)) (fun cw20 => ?_)
      refine E_aload_n dX4_test_23 rfl ?_
      refine E_ic (nI 5) dX4_test_24 (by decide) ?_
      refine E_callV (As := [_]) (ci := 4) (kc' := 0) (ks' := 0) (kc := 0) (ks := 0) dX4_test_25 ok_X4_fails w_X4_59 i_X4_fails s_X4_fails rfl (by decide) rfl (Nat.lt_of_lt_of_le (by decide) hN) rfl rfl rfl (Nat.le_of_ble_eq_true rfl) (Nat.le_of_ble_eq_true rfl) (by omega) (x_failsL (d := 0) (k := 5) (p := q.1) hN (hP.1) ?_)
      exact E_zret dX4_test_28 rfl (by decide) ((hQ.l (ek.trans ((if_pos c1).trans (if_pos h0)))) _ (FLx.up I _ (by decide)) (up2_s _ _ _ _))
    · skip
      refine E_aload_n dX4_test_0 rfl ?_
      refine E_callV (As := []) (ci := 4) (kc' := 0) (ks' := 0) (kc := 0) (ks := 0) dX4_test_1 ok_X4_next w_X4_51 i_X4_next s_X4_next rfl (by decide) rfl (Nat.lt_of_lt_of_le (by decide) hN) rfl rfl rfl (Nat.le_of_ble_eq_true rfl) (Nat.le_of_ble_eq_true rfl) (by omega) (x_nextL (d := 0) hN hR hc hL hC (p := q.1) (by omega) (hP.1) ?_)
      refine E_istore_n dX4_test_4 (Nat.le_of_ble_eq_true rfl) ?_
      refine E_iload_n dX4_test_5 rfl ?_
      refine E_bp (nI 33) dX4_test_6 (by decide) ?_
      refine E_icmp_eq (tgt := 17) dX4_test_8 (by decide) (fun cw8 => ?_) (fun cw8 => by first | exact absurd cw8 ((ch_eq (k := 33) (by decide)).mpr c1) | exact absurd ((ch_eq (k := 33) (by decide)).mpr c1) cw8)
      refine E_iload_n dX4_test_17 rfl ?_
      refine E_bp (nI 6) dX4_test_18 (by decide) ?_
      refine E_cN_lt (a := 6 - k) (b := 6) (tgt := 29) dX4_test_20 (by omega) (by decide) (by decide) (fun cw20 => ?_) (fun cw20 => absurd cw20 (by omega))
      refine E_aload_n dX4_test_29 rfl ?_
      refine E_dup dX4_test_30 rfl ?_
      refine E_getI dX4_test_31 f_X4_29 rfl (Nat.lt_of_lt_of_le (by decide) hN) rfl ?_
      refine E.top (hP.1) ?_
      refine E_ic (nI 1) dX4_test_34 (by decide) ?_
      refine E_iadd dX4_test_35 ?_
      refine E.top (nI_add (q.1) 1) ?_
      refine E_putI dX4_test_36 f_X4_29 rfl (Nat.lt_of_lt_of_le (by decide) hN) rfl ?_
      refine E_iload_n dX4_test_39 rfl ?_
      refine E_bp (nI 40) dX4_test_40 (by decide) ?_
      refine E_icmp_ne (tgt := 70) dX4_test_42 (by decide) (fun cw42 => ?_) (fun cw42 => by first | exact absurd cw42 ((fun z => by have := (ch_eq (k := 40) (by decide)).mp z; omega)) | exact absurd ((fun z => by have := (ch_eq (k := 40) (by decide)).mp z; omega)) cw42)
      refine E_aload_n dX4_test_70 rfl ?_
      refine E_iload_n dX4_test_71 rfl ?_
      refine E_ic (nI 1) dX4_test_72 (by decide) ?_
      refine E_iadd dX4_test_73 ?_
      refine E.top (nI_add (6 - k) 1) ?_
      refine E.top (congrArg nI (show 6 - k + 1 = 6 - (k - 1) by omega)) ?_
      refine E_callV (As := [_]) (ci := 4) (kc' := 0) (ks' := 0) (kc := 0) (ks := 0) dX4_test_74 ok_X4_test w_X4_86 i_X4_test s_X4_test rfl (by decide) rfl (Nat.lt_of_lt_of_le (by decide) hN) rfl rfl rfl (Nat.le_of_ble_eq_true rfl) (Nat.le_of_ble_eq_true rfl) (by omega) (S2 h0 g (d - 1) n _ J R _ (q.1 + 1, q.2) (by omega) hN hR (hC.keep (FLx.up I (nI (q.1 + 1)) (by decide))) (hP.at (q.1 + 1)) hp (Nat.le_succ_of_le hs) hcd ?_)
      cases hts : tkL c (k - 1) (q.1 + 1, q.2) with
      | inl x =>
        intro I4 f4 e4
        refine E_zN_ne (a := 0) (tgt := 82) dX4_test_77 (by decide) (by decide) (fun cw77 => absurd cw77 (by omega)) (fun cw77 => ?_)
        refine E_ic (nI 0) dX4_test_80 (by decide) ?_
        exact E_zret dX4_test_81 rfl (by decide) ((hQ.l (ek.trans ((if_pos c1).trans ((if_neg h0).trans (bnd_l hts))))) I4 ((FLx.up I (nI (q.1 + 1)) (by decide)).trans f4) e4)
      | inr r =>
        intro I4 f4 p4
        obtain ⟨g1, _, _, _⟩ := tk_ok hc hL (k - 1) (by omega) (q.1 + 1, q.2) r hp (Nat.le_succ_of_le hs) hts
        have g5 := g1.2.1
        have g4 : r.2.1 + (q.1 + 1) + 0 ≤ r.1 + q.2.1 + 0 := g1.2.2.2.1
        refine E_zN_ne (a := 1) (tgt := 82) dX4_test_77 (by decide) (by decide) (fun cw77 => ?_) (fun cw77 => absurd cw77 (by omega))
        refine E_aload_n dX4_test_82 rfl ?_
        refine E_bp (nI 33) dX4_test_83 (by decide) ?_
        refine E_ic (nI 0) dX4_test_85 (by decide) ?_
        refine E_callV (As := [_, _]) (ci := 4) (kc' := 0) (ks' := 0) (kc := 0) (ks := 0) dX4_test_86 ok_X4_emit w_X4_93 i_X4_emit s_X4_emit rfl (by decide) rfl (Nat.lt_of_lt_of_le (by decide) hN) rfl rfl rfl (Nat.le_of_ble_eq_true rfl) (Nat.le_of_ble_eq_true rfl) (by omega) (x_emitL (d := 0) (op := 10) (v := 0) (q := r) hN hR (by omega) (by decide) p4 (fun I2 f2 p2 => ?_))
        refine E_pop dX4_test_89 rfl ?_
        refine E_ic (nI 1) dX4_test_90 (by decide) ?_
        exact E_zret dX4_test_91 rfl (by decide) ((hQ.r (ek.trans ((if_pos c1).trans ((if_neg h0).trans ((bnd_r hts).trans (congrArg Sum.inr (emL_n (by decide) r))))))) I2 (((FLx.up I (nI (q.1 + 1)) (by decide)).trans f4).trans f2) p2)
  · by_cases c3 : c q.1 = 40
    · have hp := hc.lt (p := q.1) (by omega)
      by_cases h0 : k = 0
      · skip
        refine E_aload_n dX4_test_0 rfl ?_
        refine E_callV (As := []) (ci := 4) (kc' := 0) (ks' := 0) (kc := 0) (ks := 0) dX4_test_1 ok_X4_next w_X4_51 i_X4_next s_X4_next rfl (by decide) rfl (Nat.lt_of_lt_of_le (by decide) hN) rfl rfl rfl (Nat.le_of_ble_eq_true rfl) (Nat.le_of_ble_eq_true rfl) (by omega) (x_nextL (d := 0) hN hR hc hL hC (p := q.1) (by omega) (hP.1) ?_)
        refine E_istore_n dX4_test_4 (Nat.le_of_ble_eq_true rfl) ?_
        refine E_iload_n dX4_test_5 rfl ?_
        refine E_bp (nI 33) dX4_test_6 (by decide) ?_
        refine E_icmp_eq (tgt := 17) dX4_test_8 (by decide) (fun cw8 => by first | exact absurd cw8 ((fun z => c1 ((ch_eq (k := 33) (by decide)).mp z))) | exact absurd ((fun z => c1 ((ch_eq (k := 33) (by decide)).mp z))) cw8) (fun cw8 => ?_)
        refine E_iload_n dX4_test_11 rfl ?_
        refine E_bp (nI 40) dX4_test_12 (by decide) ?_
        refine E_icmp_ne (tgt := 92) dX4_test_14 (by decide) (fun cw14 => by first | exact absurd cw14 ((ch_eq (k := 40) (by decide)).mpr c3) | exact absurd ((ch_eq (k := 40) (by decide)).mpr c3) cw14) (fun cw14 => ?_)
        refine E_iload_n dX4_test_17 rfl ?_
        refine E_bp (nI 6) dX4_test_18 (by decide) ?_
        refine E_cN_lt (a := 6 - k) (b := 6) (tgt := 29) dX4_test_20 (by omega) (by decide) (by decide) (fun cw20 => absurd cw20 (by omega)) (fun cw20 => ?_)
        refine E_aload_n dX4_test_23 rfl ?_
        refine E_ic (nI 5) dX4_test_24 (by decide) ?_
        refine E_callV (As := [_]) (ci := 4) (kc' := 0) (ks' := 0) (kc := 0) (ks := 0) dX4_test_25 ok_X4_fails w_X4_59 i_X4_fails s_X4_fails rfl (by decide) rfl (Nat.lt_of_lt_of_le (by decide) hN) rfl rfl rfl (Nat.le_of_ble_eq_true rfl) (Nat.le_of_ble_eq_true rfl) (by omega) (x_failsL (d := 0) (k := 5) (p := q.1) hN (hP.1) ?_)
        exact E_zret dX4_test_28 rfl (by decide) ((hQ.l (ek.trans ((if_neg c1).trans ((if_pos c3).trans (if_pos h0))))) _ (FLx.up I _ (by decide)) (up2_s _ _ _ _))
      · skip
        refine E_aload_n dX4_test_0 rfl ?_
        refine E_callV (As := []) (ci := 4) (kc' := 0) (ks' := 0) (kc := 0) (ks := 0) dX4_test_1 ok_X4_next w_X4_51 i_X4_next s_X4_next rfl (by decide) rfl (Nat.lt_of_lt_of_le (by decide) hN) rfl rfl rfl (Nat.le_of_ble_eq_true rfl) (Nat.le_of_ble_eq_true rfl) (by omega) (x_nextL (d := 0) hN hR hc hL hC (p := q.1) (by omega) (hP.1) ?_)
        refine E_istore_n dX4_test_4 (Nat.le_of_ble_eq_true rfl) ?_
        refine E_iload_n dX4_test_5 rfl ?_
        refine E_bp (nI 33) dX4_test_6 (by decide) ?_
        refine E_icmp_eq (tgt := 17) dX4_test_8 (by decide) (fun cw8 => by first | exact absurd cw8 ((fun z => c1 ((ch_eq (k := 33) (by decide)).mp z))) | exact absurd ((fun z => c1 ((ch_eq (k := 33) (by decide)).mp z))) cw8) (fun cw8 => ?_)
        refine E_iload_n dX4_test_11 rfl ?_
        refine E_bp (nI 40) dX4_test_12 (by decide) ?_
        refine E_icmp_ne (tgt := 92) dX4_test_14 (by decide) (fun cw14 => by first | exact absurd cw14 ((ch_eq (k := 40) (by decide)).mpr c3) | exact absurd ((ch_eq (k := 40) (by decide)).mpr c3) cw14) (fun cw14 => ?_)
        refine E_iload_n dX4_test_17 rfl ?_
        refine E_bp (nI 6) dX4_test_18 (by decide) ?_
        refine E_cN_lt (a := 6 - k) (b := 6) (tgt := 29) dX4_test_20 (by omega) (by decide) (by decide) (fun cw20 => ?_) (fun cw20 => absurd cw20 (by omega))
        refine E_aload_n dX4_test_29 rfl ?_
        refine E_dup dX4_test_30 rfl ?_
        refine E_getI dX4_test_31 f_X4_29 rfl (Nat.lt_of_lt_of_le (by decide) hN) rfl ?_
        refine E.top (hP.1) ?_
        refine E_ic (nI 1) dX4_test_34 (by decide) ?_
        refine E_iadd dX4_test_35 ?_
        refine E.top (nI_add (q.1) 1) ?_
        refine E_putI dX4_test_36 f_X4_29 rfl (Nat.lt_of_lt_of_le (by decide) hN) rfl ?_
        refine E_iload_n dX4_test_39 rfl ?_
        refine E_bp (nI 40) dX4_test_40 (by decide) ?_
        refine E_icmp_ne (tgt := 70) dX4_test_42 (by decide) (fun cw42 => by first | exact absurd cw42 ((ch_eq (k := 40) (by decide)).mpr c3) | exact absurd ((ch_eq (k := 40) (by decide)).mpr c3) cw42) (fun cw42 => ?_)
        refine E_aload_n dX4_test_45 rfl ?_
        refine E_iload_n dX4_test_46 rfl ?_
        refine E_ic (nI 1) dX4_test_47 (by decide) ?_
        refine E_iadd dX4_test_48 ?_
        refine E.top (nI_add (6 - k) 1) ?_
        refine E.top (congrArg nI (show 6 - k + 1 = 6 - (k - 1) by omega)) ?_
        refine E_callV (As := [_]) (ci := 4) (kc' := 0) (ks' := 0) (kc := 0) (ks := 0) dX4_test_49 ok_X4_choice w_X4_80 i_X4_choice s_X4_choice rfl (by decide) rfl (Nat.lt_of_lt_of_le (by decide) hN) rfl rfl rfl (Nat.le_of_ble_eq_true rfl) (Nat.le_of_ble_eq_true rfl) (by omega) (S1 h0 g (d - 1) n _ J R _ (q.1 + 1, q.2) (by omega) hN hR (hC.keep (FLx.up I (nI (q.1 + 1)) (by decide))) (hP.at (q.1 + 1)) hp (Nat.le_succ_of_le hs) hcd ?_)
        cases hts : chL c (k - 1) (q.1 + 1, q.2) with
        | inl x =>
          intro I4 f4 e4
          refine E_zN_eq (a := 0) (tgt := 68) dX4_test_52 (by decide) (by decide) (fun cw52 => ?_) (fun cw52 => absurd cw52 (by omega))
          refine E_ic (nI 0) dX4_test_68 (by decide) ?_
          exact E_zret dX4_test_69 rfl (by decide) ((hQ.l (ek.trans ((if_neg c1).trans ((if_pos c3).trans ((if_neg h0).trans (bnd_l hts)))))) I4 ((FLx.up I (nI (q.1 + 1)) (by decide)).trans f4) e4)
        | inr r =>
          intro I4 f4 p4
          have gr := (cho_ok hc hL (tk_ok hc hL (k - 1) (by omega)) (q.1 + 1, q.2) r hp (Nat.le_succ_of_le hs) hts).1.2.1
          refine E_zN_eq (a := 1) (tgt := 68) dX4_test_52 (by decide) (by decide) (fun cw52 => absurd cw52 (by omega)) (fun cw52 => ?_)
          refine E_aload_n dX4_test_55 rfl ?_
          refine E_bp (nI 41) dX4_test_56 (by decide) ?_
          refine E_callV (As := [_]) (ci := 4) (kc' := 0) (ks' := 0) (kc := 0) (ks := 0) dX4_test_58 ok_X4_passes w_X4_55 i_X4_passes s_X4_passes rfl (by decide) rfl (Nat.lt_of_lt_of_le (by decide) hN) rfl rfl rfl (Nat.le_of_ble_eq_true rfl) (Nat.le_of_ble_eq_true rfl) (by omega) (x_passesL (d := 0) (q := r) (z := 41) hN hR hc hL ((hC.keep (FLx.up I (nI (q.1 + 1)) (by decide))).keep f4) (by decide) gr p4 ?_)
          cases hps : psL c 41 r with
          | inl x =>
            intro I5 f5 e5
            refine E_zN_eq (a := 0) (tgt := 68) dX4_test_61 (by decide) (by decide) (fun cw61 => ?_) (fun cw61 => absurd cw61 (by omega))
            refine E_ic (nI 0) dX4_test_68 (by decide) ?_
            exact E_zret dX4_test_69 rfl (by decide) ((hQ.l (ek.trans ((if_neg c1).trans ((if_pos c3).trans ((if_neg h0).trans ((bnd_r hts).trans hps)))))) I5 (((FLx.up I (nI (q.1 + 1)) (by decide)).trans f4).trans f5) e5)
          | inr r2 =>
            intro I5 f5 p5
            refine E_zN_eq (a := 1) (tgt := 68) dX4_test_61 (by decide) (by decide) (fun cw61 => absurd cw61 (by omega)) (fun cw61 => ?_)
            refine E_ic (nI 1) dX4_test_64 (by decide) ?_
            refine E_goto (tgt := 69) dX4_test_65 (by decide) ?_
            exact E_zret dX4_test_69 rfl (by decide) ((hQ.r (ek.trans ((if_neg c1).trans ((if_pos c3).trans ((if_neg h0).trans ((bnd_r hts).trans hps)))))) I5 (((FLx.up I (nI (q.1 + 1)) (by decide)).trans f4).trans f5) p5)
    · skip
      refine E_aload_n dX4_test_0 rfl ?_
      refine E_callV (As := []) (ci := 4) (kc' := 0) (ks' := 0) (kc := 0) (ks := 0) dX4_test_1 ok_X4_next w_X4_51 i_X4_next s_X4_next rfl (by decide) rfl (Nat.lt_of_lt_of_le (by decide) hN) rfl rfl rfl (Nat.le_of_ble_eq_true rfl) (Nat.le_of_ble_eq_true rfl) (by omega) (x_nextL (d := 0) hN hR hc hL hC (p := q.1) (by omega) (hP.1) ?_)
      refine E_istore_n dX4_test_4 (Nat.le_of_ble_eq_true rfl) ?_
      refine E_iload_n dX4_test_5 rfl ?_
      refine E_bp (nI 33) dX4_test_6 (by decide) ?_
      refine E_icmp_eq (tgt := 17) dX4_test_8 (by decide) (fun cw8 => by first | exact absurd cw8 ((fun z => c1 ((ch_eq (k := 33) (by decide)).mp z))) | exact absurd ((fun z => c1 ((ch_eq (k := 33) (by decide)).mp z))) cw8) (fun cw8 => ?_)
      refine E_iload_n dX4_test_11 rfl ?_
      refine E_bp (nI 40) dX4_test_12 (by decide) ?_
      refine E_icmp_ne (tgt := 92) dX4_test_14 (by decide) (fun cw14 => ?_) (fun cw14 => by first | exact absurd cw14 ((fun z => c3 ((ch_eq (k := 40) (by decide)).mp z))) | exact absurd ((fun z => c3 ((ch_eq (k := 40) (by decide)).mp z))) cw14)
      refine E_aload_n dX4_test_92 rfl ?_
      refine E_iload_n dX4_test_93 rfl ?_
      refine E_callV (As := [_]) (ci := 4) (kc' := 0) (ks' := 0) (kc := 0) (ks := 0) dX4_test_94 ok_X4_sum w_X4_74 i_X4_sum s_X4_sum rfl (by decide) rfl (Nat.lt_of_lt_of_le (by decide) hN) rfl rfl rfl (Nat.le_of_ble_eq_true rfl) (Nat.le_of_ble_eq_true rfl) (by omega) (SM g (d - 1) n _ J R _ q (by omega) hN hR hC hP hq hs ?_)
      cases hts : smL c k q with
      | inl x =>
        intro I4 f4 e4
        refine E_zN_ne (a := 0) (tgt := 102) dX4_test_97 (by decide) (by decide) (fun cw97 => absurd cw97 (by omega)) (fun cw97 => ?_)
        refine E_ic (nI 0) dX4_test_100 (by decide) ?_
        exact E_zret dX4_test_101 rfl (by decide) ((hQ.l (ek.trans ((if_neg c1).trans ((if_neg c3).trans (bnd_l hts))))) I4 f4 e4)
      | inr r =>
        intro I4 f4 p4
        obtain ⟨g1, _, _, _⟩ := sm_ok hc k q r hq hs hts
        have hsr := OKP.s (h := 20) (V := V01) g1 hs
        have g5 := g1.2.1
        by_cases c4 : cmL (c r.1) = 0
        · have nn := cm_no c4
          refine E_zN_ne (a := 1) (tgt := 102) dX4_test_97 (by decide) (by decide) (fun cw97 => ?_) (fun cw97 => absurd cw97 (by omega))
          refine E_aload_n dX4_test_102 rfl ?_
          refine E_callV (As := []) (ci := 4) (kc' := 0) (ks' := 0) (kc := 0) (ks := 0) dX4_test_103 ok_X4_next w_X4_51 i_X4_next s_X4_next rfl (by decide) rfl (Nat.lt_of_lt_of_le (by decide) hN) rfl rfl rfl (Nat.le_of_ble_eq_true rfl) (Nat.le_of_ble_eq_true rfl) (by omega) (x_nextL (d := 0) hN hR hc hL (hC.keep f4) (p := r.1) (by omega) p4.1 ?_)
          refine E_istore_n dX4_test_106 (Nat.le_of_ble_eq_true rfl) ?_
          refine E_iload_n dX4_test_107 rfl ?_
          refine E_bp (nI 60) dX4_test_108 (by decide) ?_
          refine E_icmp_eq (tgt := 131) dX4_test_110 (by decide) (fun cw110 => by first | exact absurd cw110 ((fun z => nn.1 ((ch_eq (k := 60) (by decide)).mp z))) | exact absurd ((fun z => nn.1 ((ch_eq (k := 60) (by decide)).mp z))) cw110) (fun cw110 => ?_)
          refine E_iload_n dX4_test_113 rfl ?_
          refine E_bp (nI 62) dX4_test_114 (by decide) ?_
          refine E_icmp_eq (tgt := 131) dX4_test_116 (by decide) (fun cw116 => by first | exact absurd cw116 ((fun z => nn.2.1 ((ch_eq (k := 62) (by decide)).mp z))) | exact absurd ((fun z => nn.2.1 ((ch_eq (k := 62) (by decide)).mp z))) cw116) (fun cw116 => ?_)
          refine E_iload_n dX4_test_119 rfl ?_
          refine E_bp (nI 61) dX4_test_120 (by decide) ?_
          refine E_icmp_eq (tgt := 131) dX4_test_122 (by decide) (fun cw122 => by first | exact absurd cw122 ((fun z => nn.2.2 ((ch_eq (k := 61) (by decide)).mp z))) | exact absurd ((fun z => nn.2.2 ((ch_eq (k := 61) (by decide)).mp z))) cw122) (fun cw122 => ?_)
          refine E_aload_n dX4_test_125 rfl ?_
          refine E_ic (nI 1) dX4_test_126 (by decide) ?_
          refine E_callV (As := [_]) (ci := 4) (kc' := 0) (ks' := 0) (kc := 0) (ks := 0) dX4_test_127 ok_X4_fails w_X4_59 i_X4_fails s_X4_fails rfl (by decide) rfl (Nat.lt_of_lt_of_le (by decide) hN) rfl rfl rfl (Nat.le_of_ble_eq_true rfl) (Nat.le_of_ble_eq_true rfl) (by omega) (x_failsL (d := 0) (k := 1) (p := r.1) hN (p4.1) ?_)
          exact E_zret dX4_test_130 rfl (by decide) ((hQ.l (ek.trans ((if_neg c1).trans ((if_neg c3).trans ((bnd_r hts).trans (if_pos c4)))))) _ (f4.trans (FLx.up I4 _ (by decide))) (up2_s _ _ _ _))
        · obtain ⟨m1, m2, m3⟩ := cm_lt c4
          have mw := (cm_wh c4).2
          have hpr := hc.lt m1
          have k131 : E g mX4_test d 0 0 131 [.ref 11, .int (nI (6 - k)), .int (chI (c q.1)), .int (nI (c r.1))] [] n I4 J R Q := by
            refine E_aload_n dX4_test_131 rfl ?_
            refine E_dup dX4_test_132 rfl ?_
            refine E_getI dX4_test_133 f_X4_29 rfl (Nat.lt_of_lt_of_le (by decide) hN) rfl ?_
            refine E.top (p4.1) ?_
            refine E_ic (nI 1) dX4_test_136 (by decide) ?_
            refine E_iadd dX4_test_137 ?_
            refine E.top (nI_add (r.1) 1) ?_
            refine E_putI dX4_test_138 f_X4_29 rfl (Nat.lt_of_lt_of_le (by decide) hN) rfl ?_
            refine E_aload_n dX4_test_141 rfl ?_
            refine E_iload_n dX4_test_142 rfl ?_
            refine E_callV (As := [_]) (ci := 4) (kc' := 0) (ks' := 0) (kc := 0) (ks := 0) dX4_test_143 ok_X4_sum w_X4_74 i_X4_sum s_X4_sum rfl (by decide) rfl (Nat.lt_of_lt_of_le (by decide) hN) rfl rfl rfl (Nat.le_of_ble_eq_true rfl) (Nat.le_of_ble_eq_true rfl) (by omega) (SM g (d - 1) n _ J R _ (r.1 + 1, r.2) (by omega) hN hR ((hC.keep f4).keep (FLx.up I4 (nI (r.1 + 1)) (by decide))) (p4.at (r.1 + 1)) hpr (Nat.le_succ_of_le hsr) ?_)
            cases hs2 : smL c k (r.1 + 1, r.2) with
            | inl x =>
              intro I5 f5 e5
              refine E_zN_ne (a := 0) (tgt := 151) dX4_test_146 (by decide) (by decide) (fun cw146 => absurd cw146 (by omega)) (fun cw146 => ?_)
              refine E_ic (nI 0) dX4_test_149 (by decide) ?_
              exact E_zret dX4_test_150 rfl (by decide) ((hQ.l (ek.trans ((if_neg c1).trans ((if_neg c3).trans ((bnd_r hts).trans ((if_neg c4).trans (bnd_l hs2))))))) I5 ((f4.trans (FLx.up I4 (nI (r.1 + 1)) (by decide))).trans f5) e5)
            | inr r2 =>
              intro I5 f5 p5
              obtain ⟨k1, _, _, _⟩ := sm_ok hc k (r.1 + 1, r.2) r2 hpr (Nat.le_succ_of_le hsr) hs2
              have k5 := k1.2.1
              have k4 : r2.2.1 + (r.1 + 1) + 0 ≤ r2.1 + r.2.1 + 0 := k1.2.2.2.1
              refine E_zN_ne (a := 1) (tgt := 151) dX4_test_146 (by decide) (by decide) (fun cw146 => ?_) (fun cw146 => absurd cw146 (by omega))
              refine E_aload_n dX4_test_151 rfl ?_
              refine E_iload_n dX4_test_152 rfl ?_
              refine E.top (congrArg nI (cm_wh c4).1.symm) ?_
              refine E_ic (nI 0) dX4_test_153 (by decide) ?_
              refine E_callV (As := [_, _]) (ci := 4) (kc' := 0) (ks' := 0) (kc := 0) (ks := 0) dX4_test_154 ok_X4_emit w_X4_93 i_X4_emit s_X4_emit rfl (by decide) rfl (Nat.lt_of_lt_of_le (by decide) hN) rfl rfl rfl (Nat.le_of_ble_eq_true rfl) (Nat.le_of_ble_eq_true rfl) (by omega) (x_emitL (d := 0) (op := cmL (c r.1)) (v := 0) (q := r2) hN hR (by omega) (by decide) p5 (fun I6 f6 p6 => ?_))
              refine E_pop dX4_test_157 rfl ?_
              refine E_ic (nI 1) dX4_test_158 (by decide) ?_
              exact E_zret dX4_test_159 rfl (by decide) ((hQ.r (ek.trans ((if_neg c1).trans ((if_neg c3).trans ((bnd_r hts).trans ((if_neg c4).trans ((bnd_r hs2).trans (congrArg Sum.inr (emL_n c4 r2))))))))) I6 (((f4.trans (FLx.up I4 (nI (r.1 + 1)) (by decide))).trans f5).trans f6) p6)
          refine E_zN_ne (a := 1) (tgt := 102) dX4_test_97 (by decide) (by decide) (fun cw97 => ?_) (fun cw97 => absurd cw97 (by omega))
          refine E_aload_n dX4_test_102 rfl ?_
          refine E_callV (As := []) (ci := 4) (kc' := 0) (ks' := 0) (kc := 0) (ks := 0) dX4_test_103 ok_X4_next w_X4_51 i_X4_next s_X4_next rfl (by decide) rfl (Nat.lt_of_lt_of_le (by decide) hN) rfl rfl rfl (Nat.le_of_ble_eq_true rfl) (Nat.le_of_ble_eq_true rfl) (by omega) (x_nextL (d := 0) hN hR hc hL (hC.keep f4) (p := r.1) (by omega) p4.1 ?_)
          refine E.top (show chI (c r.1) = nI (c r.1) from if_pos m1) ?_
          refine E_istore_n dX4_test_106 (Nat.le_of_ble_eq_true rfl) ?_
          refine E_iload_n dX4_test_107 rfl ?_
          refine E_bp (nI 60) dX4_test_108 (by decide) ?_
          refine E_cN_eq (a := c r.1) (b := 60) (tgt := 131) dX4_test_110 (by omega) (by decide) (by decide) (fun cw110 => ?_) (fun cw110 => ?_)
          · exact k131
          · refine E_iload_n dX4_test_113 rfl ?_
            refine E_bp (nI 62) dX4_test_114 (by decide) ?_
            refine E_cN_eq (a := c r.1) (b := 62) (tgt := 131) dX4_test_116 (by omega) (by decide) (by decide) (fun cw116 => ?_) (fun cw116 => ?_)
            · exact k131
            · refine E_iload_n dX4_test_119 rfl ?_
              refine E_bp (nI 61) dX4_test_120 (by decide) ?_
              refine E_cN_eq (a := c r.1) (b := 61) (tgt := 131) dX4_test_122 (by omega) (by decide) (by decide) (fun cw122 => ?_) (fun cw122 => absurd cw122 (by omega))
              exact k131
set_option maxRecDepth 100000 in
set_option maxHeartbeats 2000000 in
theorem x_choiceL {k : Nat} (hd : 2 * k + 8 ≤ d) (hk : k ≤ 6) (hN : 152 ≤ n) (hR : RS R) (hc : okc t L c) (hL : L ≤ 240) (hf : XTS t c L k) : ∀ (e mo w : Nat) (q : TS) (I : IM), mo + e = 240 → CLx t L I R → PLx q I → q.1 ≤ L → q.2.1 ≤ q.1 → w ≤ q.2.1 → CDok q.2.2 q.2.1 → OXL I J R n Q (clL c (tkL c k) e w q) → E g mX4_choice d 0 0 14 [.ref 11, .int (nI (6 - k)), .int (lnI w), .int (nI mo), jk, jk] [] n I J R Q := by
  have en : ∀ (mo w : Nat) (q : TS) (I : IM), PLx q I → q.1 ≤ L → q.2.1 ≤ q.1 → w ≤ q.2.1 → CDok q.2.2 q.2.1 → OXL I J R n Q (.inr (q.1, q.2.1, ldL w q.2.1 q.2.2)) → E g mX4_choice d 0 0 111 [.ref 11, .int (nI (6 - k)), .int (lnI w), .int (nI mo), jk, jk] [] n I J R Q := by
    intro mo w q I hP hq hs hw hcd hQ
    refine E_aload_n dX4_choice_111 rfl ?_
    refine E_iload_n dX4_choice_112 rfl ?_
    refine E_callV (As := [_]) (ci := 4) (kc' := 0) (ks' := 0) (kc := 0) (ks := 0) dX4_choice_113 ok_X4_land w_X4_89 i_X4_land s_X4_land rfl (by decide) rfl (Nat.lt_of_lt_of_le (by decide) hN) rfl rfl rfl (Nat.le_of_ble_eq_true rfl) (Nat.le_of_ble_eq_true rfl) (by omega) (x_landL (d := 0) (w := w) (q := q) hN hR (by omega) hw hcd hP (fun I2 f2 p2 => ?_))
    refine E_ic (nI 1) dX4_choice_116 (by decide) ?_
    exact E_zret dX4_choice_117 rfl (by decide) ((hQ.r rfl) I2 f2 p2)
  intro e
  induction e with
  | zero =>
    intro mo w q I hmo hC hP hq hs hw hcd hQ
    refine E_iload_n dX4_choice_14 rfl ?_
    refine E_sp (nI 240) dX4_choice_15 (by decide) ?_
    refine E_cN_ge (a := mo) (b := 240) (tgt := 111) dX4_choice_18 (by omega) (by decide) (by decide) (fun cw18 => ?_) (fun cw18 => absurd cw18 (by omega))
    exact en mo w q I hP hq hs hw hcd hQ
  | succ e ih =>
    intro mo w q I hmo hC hP hq hs hw hcd hQ
    by_cases c1 : c q.1 = 124
    · have hp := hc.lt (p := q.1) (by omega)
      have e0 : clL c (tkL c k) (e + 1) w q = bnd (tkL c k (q.1 + 1, q.2.1 + 1, cdU (ldL w q.2.1 q.2.2) q.2.1 (12, 0))) (fun r => clL c (tkL c k) e (q.2.1 + 1) r) := if_pos c1
      have hcd1 : CDok (cdU (ldL w q.2.1 q.2.2) q.2.1 (12, 0)) (q.2.1 + 1) := (hcd.ld (by omega)).sg (by decide) (by decide)
      refine E_iload_n dX4_choice_14 rfl ?_
      refine E_sp (nI 240) dX4_choice_15 (by decide) ?_
      refine E_cN_ge (a := mo) (b := 240) (tgt := 111) dX4_choice_18 (by omega) (by decide) (by decide) (fun cw18 => absurd cw18 (by omega)) (fun cw18 => ?_)
      refine E_aload_n dX4_choice_21 rfl ?_
      refine E_callV (As := []) (ci := 4) (kc' := 0) (ks' := 0) (kc := 0) (ks := 0) dX4_choice_22 ok_X4_next w_X4_51 i_X4_next s_X4_next rfl (by decide) rfl (Nat.lt_of_lt_of_le (by decide) hN) rfl rfl rfl (Nat.le_of_ble_eq_true rfl) (Nat.le_of_ble_eq_true rfl) (by omega) (x_nextL (d := 0) hN hR hc hL hC (p := q.1) (by omega) (hP.1) ?_)
      refine E_bp (nI 124) dX4_choice_25 (by decide) ?_
      refine E_icmp_eq (tgt := 39) dX4_choice_27 (by decide) (fun cw27 => ?_) (fun cw27 => by first | exact absurd cw27 ((ch_eq (k := 124) (by decide)).mpr c1) | exact absurd ((ch_eq (k := 124) (by decide)).mpr c1) cw27)
      refine E_aload_n dX4_choice_39 rfl ?_
      refine E_callV (As := []) (ci := 4) (kc' := 0) (ks' := 0) (kc := 0) (ks := 0) dX4_choice_40 ok_X4_next w_X4_51 i_X4_next s_X4_next rfl (by decide) rfl (Nat.lt_of_lt_of_le (by decide) hN) rfl rfl rfl (Nat.le_of_ble_eq_true rfl) (Nat.le_of_ble_eq_true rfl) (by omega) (x_nextL (d := 0) hN hR hc hL hC (p := q.1) (by omega) hP.1 ?_)
      refine E.top ((ch_eq (k := 124) (by decide)).mpr c1) ?_
      refine E_istore dX4_choice_43 (Nat.le_of_ble_eq_true rfl) ?_
      refine E_aload_n dX4_choice_45 rfl ?_
      refine E_dup dX4_choice_46 rfl ?_
      refine E_getI dX4_choice_47 f_X4_29 rfl (Nat.lt_of_lt_of_le (by decide) hN) rfl ?_
      refine E.top (hP.1) ?_
      refine E_ic (nI 1) dX4_choice_50 (by decide) ?_
      refine E_iadd dX4_choice_51 ?_
      refine E.top (nI_add (q.1) 1) ?_
      refine E_putI dX4_choice_52 f_X4_29 rfl (Nat.lt_of_lt_of_le (by decide) hN) rfl ?_
      refine E_iload dX4_choice_55 rfl ?_
      refine E_bp (nI 124) dX4_choice_57 (by decide) ?_
      refine E_cN_ne (a := 124) (b := 124) (tgt := 67) dX4_choice_59 (by decide) (by decide) (by decide) (fun cw59 => absurd cw59 (by omega)) (fun cw59 => ?_)
      refine E_aload_n dX4_choice_62 rfl ?_
      refine E_iload_n dX4_choice_63 rfl ?_
      refine E_callV (As := [_]) (ci := 4) (kc' := 0) (ks' := 0) (kc := 0) (ks := 0) dX4_choice_64 ok_X4_land w_X4_89 i_X4_land s_X4_land rfl (by decide) rfl (Nat.lt_of_lt_of_le (by decide) hN) rfl rfl rfl (Nat.le_of_ble_eq_true rfl) (Nat.le_of_ble_eq_true rfl) (by omega) (x_landL (d := 0) (w := w) (q := (q.1 + 1, q.2)) hN hR (by show q.2.1 ≤ 240; omega) hw hcd (hP.at (q.1 + 1)) (fun I2 f2 p2 => ?_))
      refine E_aload_n dX4_choice_67 rfl ?_
      refine E_iload dX4_choice_68 rfl ?_
      refine E_ic (nI 0) dX4_choice_70 (by decide) ?_
      refine E_callV (As := [_, _]) (ci := 4) (kc' := 0) (ks' := 0) (kc := 0) (ks := 0) dX4_choice_71 ok_X4_emit w_X4_93 i_X4_emit s_X4_emit rfl (by decide) rfl (Nat.lt_of_lt_of_le (by decide) hN) rfl rfl rfl (Nat.le_of_ble_eq_true rfl) (Nat.le_of_ble_eq_true rfl) (by omega) (x_emitL (d := 0) (op := 12) (v := 0) (q := (q.1 + 1, q.2.1, ldL w q.2.1 q.2.2)) hN hR (by show q.2.1 < 240; omega) (by decide) p2 (fun I3 f3 p3 => ?_))
      refine E_istore dX4_choice_74 (Nat.le_of_ble_eq_true rfl) ?_
      refine E_aload_n dX4_choice_76 rfl ?_
      refine E_iload_n dX4_choice_77 rfl ?_
      refine E_callV (As := [_]) (ci := 4) (kc' := 0) (ks' := 0) (kc := 0) (ks := 0) dX4_choice_78 ok_X4_test w_X4_86 i_X4_test s_X4_test rfl (by decide) rfl (Nat.lt_of_lt_of_le (by decide) hN) rfl rfl rfl (Nat.le_of_ble_eq_true rfl) (Nat.le_of_ble_eq_true rfl) (by omega) (hf g (d - 1) n _ J R _ (q.1 + 1, q.2.1 + 1, cdU (ldL w q.2.1 q.2.2) q.2.1 (12, 0)) (by omega) hN hR (hC.keep (((FLx.up I (nI (q.1 + 1)) (by decide)).trans f2).trans f3)) p3 hp (by show q.2.1 + 1 ≤ q.1 + 1; omega) hcd1 ?_)
      cases hts : tkL c k (q.1 + 1, q.2.1 + 1, cdU (ldL w q.2.1 q.2.2) q.2.1 (12, 0)) with
      | inl x =>
        intro I4 f4 e4
        refine E_zN_ne (a := 0) (tgt := 86) dX4_choice_81 (by decide) (by decide) (fun cw81 => absurd cw81 (by omega)) (fun cw81 => ?_)
        refine E_ic (nI 0) dX4_choice_84 (by decide) ?_
        exact E_zret dX4_choice_85 rfl (by decide) ((hQ.l (e0.trans (bnd_l hts))) I4 ((((FLx.up I (nI (q.1 + 1)) (by decide)).trans f2).trans f3).trans f4) e4)
      | inr r =>
        intro I4 f4 p4
        obtain ⟨g1, g2, g3, _⟩ := tk_ok hc hL k hk (q.1 + 1, q.2.1 + 1, cdU (ldL w q.2.1 q.2.2) q.2.1 (12, 0)) r hp (by show q.2.1 + 1 ≤ q.1 + 1; omega) hts
        have hsr := OKP.s (h := 20) (V := V01) g1 (by show q.2.1 + 1 ≤ q.1 + 1; omega)
        have g3 : q.2.1 + 1 < r.2.1 := g3
        refine E_zN_ne (a := 1) (tgt := 86) dX4_choice_81 (by decide) (by decide) (fun cw81 => ?_) (fun cw81 => absurd cw81 (by omega))
        refine E_iload dX4_choice_86 rfl ?_
        refine E_bp (nI 124) dX4_choice_88 (by decide) ?_
        refine E_cN_ne (a := 124) (b := 124) (tgt := 99) dX4_choice_90 (by decide) (by decide) (by decide) (fun cw90 => absurd cw90 (by omega)) (fun cw90 => ?_)
        refine E_iload dX4_choice_93 rfl ?_
        refine E_istore_n dX4_choice_95 (Nat.le_of_ble_eq_true rfl) ?_
        refine E_goto (tgt := 105) dX4_choice_96 (by decide) ?_
        refine E_incN dX4_choice_105 rfl ?_
        refine E_goto (tgt := 14) dX4_choice_108 (by decide) ?_
        refine E.mask [true, true, true, true, false, false] ?_
        show E g mX4_choice d 0 0 14 [.ref 11, .int (nI (6 - k)), .int (nI q.2.1), .int (nI (mo + 1)), jk, jk] [] n I4 J R Q
        rw [ln_s]
        exact ih (mo + 1) (q.2.1 + 1) r I4 (by omega) (hC.keep ((((FLx.up I (nI (q.1 + 1)) (by decide)).trans f2).trans f3).trans f4)) p4 g1.2.1 hsr (by omega) (hcd1.gw g1) ((OXL.from ((((FLx.up I (nI (q.1 + 1)) (by decide)).trans f2).trans f3).trans f4) hQ).rw (e0.trans (bnd_r hts)))
    · by_cases c2 : c q.1 = 38
      · have hp := hc.lt (p := q.1) (by omega)
        have e0 : clL c (tkL c k) (e + 1) w q = bnd (tkL c k (q.1 + 1, q.2.1 + 1, cdU q.2.2 q.2.1 (11, 0))) (fun r => clL c (tkL c k) e w (r.1, r.2.1, ldL (q.2.1 + 1) r.2.1 r.2.2)) := (if_neg c1).trans (if_pos c2)
        have hcd1 : CDok (cdU q.2.2 q.2.1 (11, 0)) (q.2.1 + 1) := hcd.sg (by decide) (by decide)
        refine E_iload_n dX4_choice_14 rfl ?_
        refine E_sp (nI 240) dX4_choice_15 (by decide) ?_
        refine E_cN_ge (a := mo) (b := 240) (tgt := 111) dX4_choice_18 (by omega) (by decide) (by decide) (fun cw18 => absurd cw18 (by omega)) (fun cw18 => ?_)
        refine E_aload_n dX4_choice_21 rfl ?_
        refine E_callV (As := []) (ci := 4) (kc' := 0) (ks' := 0) (kc := 0) (ks := 0) dX4_choice_22 ok_X4_next w_X4_51 i_X4_next s_X4_next rfl (by decide) rfl (Nat.lt_of_lt_of_le (by decide) hN) rfl rfl rfl (Nat.le_of_ble_eq_true rfl) (Nat.le_of_ble_eq_true rfl) (by omega) (x_nextL (d := 0) hN hR hc hL hC (p := q.1) (by omega) (hP.1) ?_)
        refine E_bp (nI 124) dX4_choice_25 (by decide) ?_
        refine E_icmp_eq (tgt := 39) dX4_choice_27 (by decide) (fun cw27 => by first | exact absurd cw27 ((fun z => c1 ((ch_eq (k := 124) (by decide)).mp z))) | exact absurd ((fun z => c1 ((ch_eq (k := 124) (by decide)).mp z))) cw27) (fun cw27 => ?_)
        refine E_aload_n dX4_choice_30 rfl ?_
        refine E_callV (As := []) (ci := 4) (kc' := 0) (ks' := 0) (kc := 0) (ks := 0) dX4_choice_31 ok_X4_next w_X4_51 i_X4_next s_X4_next rfl (by decide) rfl (Nat.lt_of_lt_of_le (by decide) hN) rfl rfl rfl (Nat.le_of_ble_eq_true rfl) (Nat.le_of_ble_eq_true rfl) (by omega) (x_nextL (d := 0) hN hR hc hL hC (p := q.1) (by omega) (hP.1) ?_)
        refine E_bp (nI 38) dX4_choice_34 (by decide) ?_
        refine E_icmp_ne (tgt := 111) dX4_choice_36 (by decide) (fun cw36 => by first | exact absurd cw36 ((ch_eq (k := 38) (by decide)).mpr c2) | exact absurd ((ch_eq (k := 38) (by decide)).mpr c2) cw36) (fun cw36 => ?_)
        refine E_aload_n dX4_choice_39 rfl ?_
        refine E_callV (As := []) (ci := 4) (kc' := 0) (ks' := 0) (kc := 0) (ks := 0) dX4_choice_40 ok_X4_next w_X4_51 i_X4_next s_X4_next rfl (by decide) rfl (Nat.lt_of_lt_of_le (by decide) hN) rfl rfl rfl (Nat.le_of_ble_eq_true rfl) (Nat.le_of_ble_eq_true rfl) (by omega) (x_nextL (d := 0) hN hR hc hL hC (p := q.1) (by omega) hP.1 ?_)
        refine E.top ((ch_eq (k := 38) (by decide)).mpr c2) ?_
        refine E_istore dX4_choice_43 (Nat.le_of_ble_eq_true rfl) ?_
        refine E_aload_n dX4_choice_45 rfl ?_
        refine E_dup dX4_choice_46 rfl ?_
        refine E_getI dX4_choice_47 f_X4_29 rfl (Nat.lt_of_lt_of_le (by decide) hN) rfl ?_
        refine E.top (hP.1) ?_
        refine E_ic (nI 1) dX4_choice_50 (by decide) ?_
        refine E_iadd dX4_choice_51 ?_
        refine E.top (nI_add (q.1) 1) ?_
        refine E_putI dX4_choice_52 f_X4_29 rfl (Nat.lt_of_lt_of_le (by decide) hN) rfl ?_
        refine E_iload dX4_choice_55 rfl ?_
        refine E_bp (nI 124) dX4_choice_57 (by decide) ?_
        refine E_cN_ne (a := 38) (b := 124) (tgt := 67) dX4_choice_59 (by decide) (by decide) (by decide) (fun cw59 => ?_) (fun cw59 => absurd cw59 (by omega))
        refine E_aload_n dX4_choice_67 rfl ?_
        refine E_iload dX4_choice_68 rfl ?_
        refine E_ic (nI 0) dX4_choice_70 (by decide) ?_
        refine E_callV (As := [_, _]) (ci := 4) (kc' := 0) (ks' := 0) (kc := 0) (ks := 0) dX4_choice_71 ok_X4_emit w_X4_93 i_X4_emit s_X4_emit rfl (by decide) rfl (Nat.lt_of_lt_of_le (by decide) hN) rfl rfl rfl (Nat.le_of_ble_eq_true rfl) (Nat.le_of_ble_eq_true rfl) (by omega) (x_emitL (d := 0) (op := 11) (v := 0) (q := (q.1 + 1, q.2)) hN hR (by show q.2.1 < 240; omega) (by decide) (hP.at (q.1 + 1)) (fun I3 f3 p3 => ?_))
        refine E_istore dX4_choice_74 (Nat.le_of_ble_eq_true rfl) ?_
        refine E_aload_n dX4_choice_76 rfl ?_
        refine E_iload_n dX4_choice_77 rfl ?_
        refine E_callV (As := [_]) (ci := 4) (kc' := 0) (ks' := 0) (kc := 0) (ks := 0) dX4_choice_78 ok_X4_test w_X4_86 i_X4_test s_X4_test rfl (by decide) rfl (Nat.lt_of_lt_of_le (by decide) hN) rfl rfl rfl (Nat.le_of_ble_eq_true rfl) (Nat.le_of_ble_eq_true rfl) (by omega) (hf g (d - 1) n _ J R _ (q.1 + 1, q.2.1 + 1, cdU q.2.2 q.2.1 (11, 0)) (by omega) hN hR (hC.keep ((FLx.up I (nI (q.1 + 1)) (by decide)).trans f3)) p3 hp (by show q.2.1 + 1 ≤ q.1 + 1; omega) hcd1 ?_)
        cases hts : tkL c k (q.1 + 1, q.2.1 + 1, cdU q.2.2 q.2.1 (11, 0)) with
        | inl x =>
          intro I4 f4 e4
          refine E_zN_ne (a := 0) (tgt := 86) dX4_choice_81 (by decide) (by decide) (fun cw81 => absurd cw81 (by omega)) (fun cw81 => ?_)
          refine E_ic (nI 0) dX4_choice_84 (by decide) ?_
          exact E_zret dX4_choice_85 rfl (by decide) ((hQ.l (e0.trans (bnd_l hts))) I4 (((FLx.up I (nI (q.1 + 1)) (by decide)).trans f3).trans f4) e4)
        | inr r =>
          intro I4 f4 p4
          obtain ⟨g1, g2, g3, _⟩ := tk_ok hc hL k hk (q.1 + 1, q.2.1 + 1, cdU q.2.2 q.2.1 (11, 0)) r hp (by show q.2.1 + 1 ≤ q.1 + 1; omega) hts
          have hsr := OKP.s (h := 20) (V := V01) g1 (by show q.2.1 + 1 ≤ q.1 + 1; omega)
          have g3 : q.2.1 + 1 < r.2.1 := g3
          have g5 := g1.2.1
          refine E_zN_ne (a := 1) (tgt := 86) dX4_choice_81 (by decide) (by decide) (fun cw81 => ?_) (fun cw81 => absurd cw81 (by omega))
          refine E_iload dX4_choice_86 rfl ?_
          refine E_bp (nI 124) dX4_choice_88 (by decide) ?_
          refine E_cN_ne (a := 38) (b := 124) (tgt := 99) dX4_choice_90 (by decide) (by decide) (by decide) (fun cw90 => ?_) (fun cw90 => absurd cw90 (by omega))
          refine E_aload_n dX4_choice_99 rfl ?_
          refine E_iload dX4_choice_100 rfl ?_
          refine E.top (ln_s q.2.1) ?_
          refine E_callV (As := [_]) (ci := 4) (kc' := 0) (ks' := 0) (kc := 0) (ks := 0) dX4_choice_102 ok_X4_land w_X4_89 i_X4_land s_X4_land rfl (by decide) rfl (Nat.lt_of_lt_of_le (by decide) hN) rfl rfl rfl (Nat.le_of_ble_eq_true rfl) (Nat.le_of_ble_eq_true rfl) (by omega) (x_landL (d := 0) (w := q.2.1 + 1) (q := r) hN hR (by omega) (by omega) (hcd1.gw g1) p4 (fun I5 f5 p5 => ?_))
          refine E_incN dX4_choice_105 rfl ?_
          refine E_goto (tgt := 14) dX4_choice_108 (by decide) ?_
          refine E.mask [true, true, true, true, false, false] ?_
          exact ih (mo + 1) w (r.1, r.2.1, ldL (q.2.1 + 1) r.2.1 r.2.2) I5 (by omega) (hC.keep ((((FLx.up I (nI (q.1 + 1)) (by decide)).trans f3).trans f4).trans f5)) p5 g1.2.1 hsr (by show w ≤ r.2.1; omega) ((hcd1.gw g1).ld (by omega)) ((OXL.from ((((FLx.up I (nI (q.1 + 1)) (by decide)).trans f3).trans f4).trans f5) hQ).rw (e0.trans (bnd_r hts)))
      · skip
        refine E_iload_n dX4_choice_14 rfl ?_
        refine E_sp (nI 240) dX4_choice_15 (by decide) ?_
        refine E_cN_ge (a := mo) (b := 240) (tgt := 111) dX4_choice_18 (by omega) (by decide) (by decide) (fun cw18 => absurd cw18 (by omega)) (fun cw18 => ?_)
        refine E_aload_n dX4_choice_21 rfl ?_
        refine E_callV (As := []) (ci := 4) (kc' := 0) (ks' := 0) (kc := 0) (ks := 0) dX4_choice_22 ok_X4_next w_X4_51 i_X4_next s_X4_next rfl (by decide) rfl (Nat.lt_of_lt_of_le (by decide) hN) rfl rfl rfl (Nat.le_of_ble_eq_true rfl) (Nat.le_of_ble_eq_true rfl) (by omega) (x_nextL (d := 0) hN hR hc hL hC (p := q.1) (by omega) (hP.1) ?_)
        refine E_bp (nI 124) dX4_choice_25 (by decide) ?_
        refine E_icmp_eq (tgt := 39) dX4_choice_27 (by decide) (fun cw27 => by first | exact absurd cw27 ((fun z => c1 ((ch_eq (k := 124) (by decide)).mp z))) | exact absurd ((fun z => c1 ((ch_eq (k := 124) (by decide)).mp z))) cw27) (fun cw27 => ?_)
        refine E_aload_n dX4_choice_30 rfl ?_
        refine E_callV (As := []) (ci := 4) (kc' := 0) (ks' := 0) (kc := 0) (ks := 0) dX4_choice_31 ok_X4_next w_X4_51 i_X4_next s_X4_next rfl (by decide) rfl (Nat.lt_of_lt_of_le (by decide) hN) rfl rfl rfl (Nat.le_of_ble_eq_true rfl) (Nat.le_of_ble_eq_true rfl) (by omega) (x_nextL (d := 0) hN hR hc hL hC (p := q.1) (by omega) (hP.1) ?_)
        refine E_bp (nI 38) dX4_choice_34 (by decide) ?_
        refine E_icmp_ne (tgt := 111) dX4_choice_36 (by decide) (fun cw36 => ?_) (fun cw36 => by first | exact absurd cw36 ((fun z => c2 ((ch_eq (k := 38) (by decide)).mp z))) | exact absurd ((fun z => c2 ((ch_eq (k := 38) (by decide)).mp z))) cw36)
        exact en mo w q I hP hq hs hw hcd (hQ.rw ((if_neg c1).trans (if_neg c2)))
set_option maxRecDepth 100000 in
set_option maxHeartbeats 2000000 in
theorem x_choice1 {k : Nat} (hk : k ≤ 6) (hc : okc t L c) (hL : L ≤ 240) (hf : XTS t c L k) : XCH t c L k := by
  intro g d n I J R Q q hd hN hR hC hP hq hs hcd hQ
  refine E_ic (-1) dX4_choice_0 (by decide) ?_
  refine E_istore_n dX4_choice_1 (Nat.le_of_ble_eq_true rfl) ?_
  refine E_aload_n dX4_choice_2 rfl ?_
  refine E_iload_n dX4_choice_3 rfl ?_
  refine E_callV (As := [_]) (ci := 4) (kc' := 0) (ks' := 0) (kc := 0) (ks := 0) dX4_choice_4 ok_X4_test w_X4_86 i_X4_test s_X4_test rfl (by decide) rfl (Nat.lt_of_lt_of_le (by decide) hN) rfl rfl rfl (Nat.le_of_ble_eq_true rfl) (Nat.le_of_ble_eq_true rfl) (by omega) (hf g (d - 1) n _ J R _ q (by omega) hN hR hC hP hq hs hcd ?_)
  cases hts : tkL c k q with
  | inl x =>
    intro I4 f4 e4
    refine E_zN_ne (a := 0) (tgt := 12) dX4_choice_7 (by decide) (by decide) (fun cw7 => absurd cw7 (by omega)) (fun cw7 => ?_)
    refine E_ic (nI 0) dX4_choice_10 (by decide) ?_
    exact E_zret dX4_choice_11 rfl (by decide) ((hQ.l (bnd_l hts)) I4 f4 e4)
  | inr r =>
    intro I4 f4 p4
    refine E_zN_ne (a := 1) (tgt := 12) dX4_choice_7 (by decide) (by decide) (fun cw7 => ?_) (fun cw7 => absurd cw7 (by omega))
    refine E_ic (nI 0) dX4_choice_12 (by decide) ?_
    refine E_istore_n dX4_choice_13 (Nat.le_of_ble_eq_true rfl) ?_
    obtain ⟨g1, g2, g3, _⟩ := tk_ok hc hL k hk q r hq hs hts
    exact x_choiceL hd hk hN hR hc hL hf 240 0 0 r I4 rfl (hC.keep f4) p4 g1.2.1 (OKP.s (h := 20) (V := V01) g1 hs) (Nat.zero_le _) (hcd.gw g1) ((OXL.from f4 hQ).rw (bnd_r hts))
theorem x_test (hc : okc t L c) (hL : L ≤ 240) : ∀ k, k ≤ 6 → XTS t c L k
  | 0, hk => x_test1 hk hc hL (fun z => absurd rfl z) (fun z => absurd rfl z)
  | k + 1, hk => x_test1 hk hc hL (fun _ => x_choice1 (by omega) hc hL (x_test hc hL k (by omega))) (fun _ => x_test hc hL k (by omega))
theorem x_choice (hc : okc t L c) (hL : L ≤ 240) (k : Nat) (hk : k ≤ 6) : XCH t c L k := x_choice1 hk hc hL (x_test hc hL k hk)
end PLawX3
