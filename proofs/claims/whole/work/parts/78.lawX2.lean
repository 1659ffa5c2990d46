/-! ===== the law's sums, as the class reads them ===== -/
def wtI (w : Nat) : Int32 := if w = 0 then -1 else nI (whc w)
theorem sg_wh {x : Nat} (h : ¬ sgL x = 0) : whc (sgL x) = x ∧ (sgL x ≤ 3 ↔ (x = 43 ∨ x = 45)) := by
  have key : ∀ x, x < 256 → ¬ sgL x = 0 → whc (sgL x) = x ∧ (sgL x ≤ 3 ↔ (x = 43 ∨ x = 45)) := by decide +kernel
  exact key x (sg_lt h).1 h
theorem wt_sg {x : Nat} (h : ¬ sgL x = 0) : wtI (sgL x) = nI x := (if_neg h).trans (congrArg nI (sg_wh h).1)
section PLawX2
variable {g : GL} {d n : Nat} {I : IM} {J : JM} {R : RM} {Q : PQ} {t c : Nat → Nat} {L : Nat} {q : TS}
theorem OXL.rw {I : IM} {J : JM} {R : RM} {n : Nat} {Q : PQ} {y z : PR} (h : OXL I J R n Q y) (e : y = z) : OXL I J R n Q z := e ▸ h
set_option maxRecDepth 100000 in
set_option maxHeartbeats 2000000 in
theorem x_sumL {k : Nat} (hd : 2 * k + 6 ≤ d) (hN : 152 ≤ n) (hR : RS R) (hc : okc t L c) (hL : L ≤ 240) (hf : XFC t c L k) : ∀ (e mo w : Nat) (q : TS) (I : IM), mo + e = 240 → (w = 0 ∨ w = 2 ∨ w = 3) → CLx t L I R → PLx q I → q.1 ≤ L → q.2.1 + wz w ≤ q.1 → OXL I J R n Q (slL c (fkL c k) e w q) → E g mX4_sum d 0 0 14 [.ref 11, .int (nI (6 - k)), .int (wtI w), .int (nI mo), jk, jk] [] n I J R Q := by
  have en : ∀ (mo w : Nat) (q : TS) (I : IM), (w = 0 ∨ w = 2 ∨ w = 3) → PLx q I → q.1 ≤ L → q.2.1 + wz w ≤ q.1 → OXL I J R n Q (.inr (emL w q)) → E g mX4_sum d 0 0 122 [.ref 11, .int (nI (6 - k)), .int (wtI w), .int (nI mo), jk, jk] [] n I J R Q := by
    intro mo w q I hw hP hq hs hQ
    by_cases h0 : w = 0
    · subst h0
      show E g mX4_sum d 0 0 122 [.ref 11, .int (nI (6 - k)), .int (-1), .int (nI mo), jk, jk] [] n I J R Q
      refine E_iload_n dX4_sum_122 rfl ?_
      refine E_ic (-1) dX4_sum_123 (by decide) ?_
      refine E_icmp_eq (tgt := 134) dX4_sum_124 (by decide) (fun cw124 => ?_) (fun cw124 => by first | exact absurd cw124 (rfl) | exact absurd (rfl) cw124)
      refine E_ic (nI 1) dX4_sum_134 (by decide) ?_
      exact E_zret dX4_sum_135 rfl (by decide) ((hQ.r rfl) I (FLx.refl I) hP)
    · rw [show wtI w = nI (whc w) from if_neg h0]
      refine E_iload_n dX4_sum_122 rfl ?_
      refine E_ic (-1) dX4_sum_123 (by decide) ?_
      refine E_icmp_eq (tgt := 134) dX4_sum_124 (by decide) (fun cw124 => by first | exact absurd cw124 (nI_m1 (Nat.lt_trans wc_lt (by decide))) | exact absurd (nI_m1 (Nat.lt_trans wc_lt (by decide))) cw124) (fun cw124 => ?_)
      refine E_aload_n dX4_sum_127 rfl ?_
      refine E_iload_n dX4_sum_128 rfl ?_
      refine E_ic (nI 0) dX4_sum_129 (by decide) ?_
      refine E_callV (As := [_, _]) (ci := 4) (kc' := 0) (ks' := 0) (kc := 0) (ks := 0) dX4_sum_130 ok_X4_emit w_X4_93 i_X4_emit s_X4_emit rfl (by decide) rfl (Nat.lt_of_lt_of_le (by decide) hN) rfl rfl rfl (Nat.le_of_ble_eq_true rfl) (Nat.le_of_ble_eq_true rfl) (by omega) (x_emitL (d := 0) (op := w) (v := 0) (q := q) hN hR (by rw [show wz w = 1 from if_neg h0] at hs; omega) (by decide) hP (fun I2 f2 p2 => ?_))
      refine E_pop dX4_sum_133 rfl ?_
      refine E_ic (nI 1) dX4_sum_134 (by decide) ?_
      exact E_zret dX4_sum_135 rfl (by decide) ((hQ.r (congrArg Sum.inr (emL_n h0 q))) I2 f2 p2)
  intro e
  induction e with
  | zero =>
    intro mo w q I hmo hw hC hP hq hs hQ
    refine E_iload_n dX4_sum_14 rfl ?_
    refine E_sp (nI 240) dX4_sum_15 (by decide) ?_
    refine E_cN_ge (a := mo) (b := 240) (tgt := 122) dX4_sum_18 (by omega) (by decide) (by decide) (fun cw18 => ?_) (fun cw18 => absurd cw18 (by omega))
    exact en mo w q I hw hP hq hs hQ
  | succ e ih =>
    intro mo w q I hmo hw hC hP hq hs hQ
    by_cases c1 : sgL (c q.1) = 0
    · skip
      refine E_iload_n dX4_sum_14 rfl ?_
      refine E_sp (nI 240) dX4_sum_15 (by decide) ?_
      refine E_cN_ge (a := mo) (b := 240) (tgt := 122) dX4_sum_18 (by omega) (by decide) (by decide) (fun cw18 => absurd cw18 (by omega)) (fun cw18 => ?_)
      refine E_ldcS (i := 3) dX4_sum_21 rfl ?_
      refine E_aload_n dX4_sum_23 rfl ?_
      refine E_callV (As := []) (ci := 4) (kc' := 0) (ks' := 0) (kc := 0) (ks := 0) dX4_sum_24 ok_X4_next w_X4_51 i_X4_next s_X4_next rfl (by decide) rfl (Nat.lt_of_lt_of_le (by decide) hN) rfl rfl rfl (Nat.le_of_ble_eq_true rfl) (Nat.le_of_ble_eq_true rfl) (by omega) (x_nextL (d := 0) hN hR hc hL hC (p := q.1) (by omega) (hP.1) ?_)
      refine E_callSN (As := [_, _]) (kc' := 0) (ks' := 0) (kc := 0) (ks := 0) dX4_sum_27 ok_X11_placeIn w_X4_64 st_X11_placeIn rfl rfl rfl (Nat.le_of_ble_eq_true rfl) (Nat.le_of_ble_eq_true rfl) (by omega) (c_placeIn (d := 0) (i := 3) rfl ?_)
      refine E.top ((pl_sg (c q.1)).trans (if_pos c1)) ?_
      refine E_if_lt (tgt := 122) dX4_sum_30 (by decide) (fun cw30 => ?_) (fun cw30 => by first | exact absurd cw30 ((by decide)) | exact absurd ((by decide)) cw30)
      exact en mo w q I hw hP hq hs (hQ.rw (if_pos c1))
    · obtain ⟨s1, s2, s3⟩ := sg_lt c1
      have hp := hc.lt s1
      have sw := (sg_wh c1).2
      have es : (emL w q).2.1 = q.2.1 + wz w := by unfold emL wz; split <;> rfl
      by_cases c2 : sgL (c q.1) ≤ 3
      · have e0 : slL c (fkL c k) (e + 1) w q = bnd (fkL c k (q.1 + 1, (emL w q).2)) (fun r => slL c (fkL c k) e (sgL (c q.1)) r) := (if_neg c1).trans (if_pos c2)
        have s43 := sw.mp c2
        by_cases h0 : w = 0
        · rw [show wtI w = -1 from if_pos h0]
          refine E_iload_n dX4_sum_14 rfl ?_
          refine E_sp (nI 240) dX4_sum_15 (by decide) ?_
          refine E_cN_ge (a := mo) (b := 240) (tgt := 122) dX4_sum_18 (by omega) (by decide) (by decide) (fun cw18 => absurd cw18 (by omega)) (fun cw18 => ?_)
          refine E_ldcS (i := 3) dX4_sum_21 rfl ?_
          refine E_aload_n dX4_sum_23 rfl ?_
          refine E_callV (As := []) (ci := 4) (kc' := 0) (ks' := 0) (kc := 0) (ks := 0) dX4_sum_24 ok_X4_next w_X4_51 i_X4_next s_X4_next rfl (by decide) rfl (Nat.lt_of_lt_of_le (by decide) hN) rfl rfl rfl (Nat.le_of_ble_eq_true rfl) (Nat.le_of_ble_eq_true rfl) (by omega) (x_nextL (d := 0) hN hR hc hL hC (p := q.1) (by omega) (hP.1) ?_)
          refine E_callSN (As := [_, _]) (kc' := 0) (ks' := 0) (kc := 0) (ks := 0) dX4_sum_27 ok_X11_placeIn w_X4_64 st_X11_placeIn rfl rfl rfl (Nat.le_of_ble_eq_true rfl) (Nat.le_of_ble_eq_true rfl) (by omega) (c_placeIn (d := 0) (i := 3) rfl ?_)
          refine E.top ((pl_sg (c q.1)).trans (if_neg c1)) ?_
          refine E_zN_lt (a := sgL (c q.1) - 2) (tgt := 122) dX4_sum_30 (by omega) (by decide) (fun cw30 => cw30.elim) (fun cw30 => ?_)
          refine E_aload_n dX4_sum_33 rfl ?_
          refine E_callV (As := []) (ci := 4) (kc' := 0) (ks' := 0) (kc := 0) (ks := 0) dX4_sum_34 ok_X4_next w_X4_51 i_X4_next s_X4_next rfl (by decide) rfl (Nat.lt_of_lt_of_le (by decide) hN) rfl rfl rfl (Nat.le_of_ble_eq_true rfl) (Nat.le_of_ble_eq_true rfl) (by omega) (x_nextL (d := 0) hN hR hc hL hC (p := q.1) (by omega) hP.1 ?_)
          refine E.top (show chI (c (q.1)) = nI (c (q.1)) from if_pos s1) ?_
          refine E_istore dX4_sum_37 (Nat.le_of_ble_eq_true rfl) ?_
          refine E_aload_n dX4_sum_39 rfl ?_
          refine E_dup dX4_sum_40 rfl ?_
          refine E_getI dX4_sum_41 f_X4_29 rfl (Nat.lt_of_lt_of_le (by decide) hN) rfl ?_
          refine E.top (hP.1) ?_
          refine E_ic (nI 1) dX4_sum_44 (by decide) ?_
          refine E_iadd dX4_sum_45 ?_
          refine E.top (nI_add (q.1) 1) ?_
          refine E_putI dX4_sum_46 f_X4_29 rfl (Nat.lt_of_lt_of_le (by decide) hN) rfl ?_
          refine E_iload dX4_sum_49 rfl ?_
          refine E_bp (nI 43) dX4_sum_51 (by decide) ?_
          refine E_cN_eq (a := c (q.1)) (b := 43) (tgt := 63) dX4_sum_53 (by omega) (by decide) (by decide) (fun cw53 => ?_) (fun cw53 => ?_)
          · refine E_ic (nI 1) dX4_sum_63 (by decide) ?_
            refine E_goto (tgt := 68) dX4_sum_64 (by decide) ?_
            refine E_istore dX4_sum_68 (Nat.le_of_ble_eq_true rfl) ?_
            refine E_iload dX4_sum_70 rfl ?_
            refine E_zN_eq (a := 1) (tgt := 87) dX4_sum_72 (by decide) (by decide) (fun cw72 => absurd cw72 (by omega)) (fun cw72 => ?_)
            refine E_iload_n dX4_sum_75 rfl ?_
            refine E_ic (-1) dX4_sum_76 (by decide) ?_
            refine E_icmp_eq (tgt := 87) dX4_sum_77 (by decide) (fun cw77 => ?_) (fun cw77 => by first | exact absurd cw77 (rfl) | exact absurd (rfl) cw77)
            refine E_aload_n dX4_sum_87 rfl ?_
            refine E_iload_n dX4_sum_88 rfl ?_
            refine E_callV (As := [_]) (ci := 4) (kc' := 0) (ks' := 0) (kc := 0) (ks := 0) dX4_sum_89 ok_X4_factor w_X4_96 i_X4_factor s_X4_factor rfl (by decide) rfl (Nat.lt_of_lt_of_le (by decide) hN) rfl rfl rfl (Nat.le_of_ble_eq_true rfl) (Nat.le_of_ble_eq_true rfl) (by omega) (hf g (d - 1) n _ J R _ (q.1 + 1, (emL w q).2) (by omega) hN hR (hC.keep (FLx.up I (nI (q.1 + 1)) (by decide))) (by rw [show emL w q = q by rw [h0]; rfl]; exact (hP.at (q.1 + 1))) hp (by show (emL w q).2.1 ≤ q.1 + 1; omega) ?_)
            cases hfa : fkL c k (q.1 + 1, (emL w q).2) with
            | inl x =>
              intro I4 f4 e4
              refine E_zN_ne (a := 0) (tgt := 97) dX4_sum_92 (by decide) (by decide) (fun cw92 => absurd cw92 (by omega)) (fun cw92 => ?_)
              refine E_ic (nI 0) dX4_sum_95 (by decide) ?_
              exact E_zret dX4_sum_96 rfl (by decide) ((hQ.l (e0.trans (bnd_l hfa))) I4 ((FLx.up I (nI (q.1 + 1)) (by decide)).trans f4) e4)
            | inr r =>
              intro I4 f4 p4
              refine E_zN_ne (a := 1) (tgt := 97) dX4_sum_92 (by decide) (by decide) (fun cw92 => ?_) (fun cw92 => absurd cw92 (by omega))
              refine E_iload dX4_sum_97 rfl ?_
              refine E_zN_eq (a := 1) (tgt := 108) dX4_sum_99 (by decide) (by decide) (fun cw99 => absurd cw99 (by omega)) (fun cw99 => ?_)
              refine E_iload dX4_sum_102 rfl ?_
              refine E_istore_n dX4_sum_104 (Nat.le_of_ble_eq_true rfl) ?_
              refine E_goto (tgt := 116) dX4_sum_105 (by decide) ?_
              refine E_incN dX4_sum_116 rfl ?_
              refine E_goto (tgt := 14) dX4_sum_119 (by decide) ?_
              refine E.mask [true, true, true, true, false, false] ?_
              show E g mX4_sum d 0 0 14 [.ref 11, .int (nI (6 - k)), .int (nI (c q.1)), .int (nI (mo + 1)), jk, jk] [] n I4 J R Q
              rw [← wt_sg c1]
              obtain ⟨g1, g2, g3, _⟩ := fk_ok hc k (q.1 + 1, (emL w q).2) r hp (by show (emL w q).2.1 ≤ q.1 + 1; omega) hfa
              have g2 : q.1 + 1 < r.1 := g2
              have g4 : r.2.1 + (q.1 + 1) + 0 ≤ r.1 + (emL w q).2.1 + 0 := g1.2.2.2.1
              exact ih (mo + 1) (sgL (c q.1)) r I4 (by omega) (by omega) (hC.keep ((FLx.up I (nI (q.1 + 1)) (by decide)).trans f4)) p4 g1.2.1 (by rw [show wz (sgL (c q.1)) = 1 from if_neg c1]; omega) (((OXL.from ((FLx.up I (nI (q.1 + 1)) (by decide)).trans f4)) hQ).rw (e0.trans (bnd_r hfa)))
          · refine E_iload dX4_sum_56 rfl ?_
            refine E_bp (nI 45) dX4_sum_58 (by decide) ?_
            refine E_cN_ne (a := c (q.1)) (b := 45) (tgt := 67) dX4_sum_60 (by omega) (by decide) (by decide) (fun cw60 => absurd cw60 (by omega)) (fun cw60 => ?_)
            refine E_ic (nI 1) dX4_sum_63 (by decide) ?_
            refine E_goto (tgt := 68) dX4_sum_64 (by decide) ?_
            refine E_istore dX4_sum_68 (Nat.le_of_ble_eq_true rfl) ?_
            refine E_iload dX4_sum_70 rfl ?_
            refine E_zN_eq (a := 1) (tgt := 87) dX4_sum_72 (by decide) (by decide) (fun cw72 => absurd cw72 (by omega)) (fun cw72 => ?_)
            refine E_iload_n dX4_sum_75 rfl ?_
            refine E_ic (-1) dX4_sum_76 (by decide) ?_
            refine E_icmp_eq (tgt := 87) dX4_sum_77 (by decide) (fun cw77 => ?_) (fun cw77 => by first | exact absurd cw77 (rfl) | exact absurd (rfl) cw77)
            refine E_aload_n dX4_sum_87 rfl ?_
            refine E_iload_n dX4_sum_88 rfl ?_
            refine E_callV (As := [_]) (ci := 4) (kc' := 0) (ks' := 0) (kc := 0) (ks := 0) dX4_sum_89 ok_X4_factor w_X4_96 i_X4_factor s_X4_factor rfl (by decide) rfl (Nat.lt_of_lt_of_le (by decide) hN) rfl rfl rfl (Nat.le_of_ble_eq_true rfl) (Nat.le_of_ble_eq_true rfl) (by omega) (hf g (d - 1) n _ J R _ (q.1 + 1, (emL w q).2) (by omega) hN hR (hC.keep (FLx.up I (nI (q.1 + 1)) (by decide))) (by rw [show emL w q = q by rw [h0]; rfl]; exact (hP.at (q.1 + 1))) hp (by show (emL w q).2.1 ≤ q.1 + 1; omega) ?_)
            cases hfa : fkL c k (q.1 + 1, (emL w q).2) with
            | inl x =>
              intro I4 f4 e4
              refine E_zN_ne (a := 0) (tgt := 97) dX4_sum_92 (by decide) (by decide) (fun cw92 => absurd cw92 (by omega)) (fun cw92 => ?_)
              refine E_ic (nI 0) dX4_sum_95 (by decide) ?_
              exact E_zret dX4_sum_96 rfl (by decide) ((hQ.l (e0.trans (bnd_l hfa))) I4 ((FLx.up I (nI (q.1 + 1)) (by decide)).trans f4) e4)
            | inr r =>
              intro I4 f4 p4
              refine E_zN_ne (a := 1) (tgt := 97) dX4_sum_92 (by decide) (by decide) (fun cw92 => ?_) (fun cw92 => absurd cw92 (by omega))
              refine E_iload dX4_sum_97 rfl ?_
              refine E_zN_eq (a := 1) (tgt := 108) dX4_sum_99 (by decide) (by decide) (fun cw99 => absurd cw99 (by omega)) (fun cw99 => ?_)
              refine E_iload dX4_sum_102 rfl ?_
              refine E_istore_n dX4_sum_104 (Nat.le_of_ble_eq_true rfl) ?_
              refine E_goto (tgt := 116) dX4_sum_105 (by decide) ?_
              refine E_incN dX4_sum_116 rfl ?_
              refine E_goto (tgt := 14) dX4_sum_119 (by decide) ?_
              refine E.mask [true, true, true, true, false, false] ?_
              show E g mX4_sum d 0 0 14 [.ref 11, .int (nI (6 - k)), .int (nI (c q.1)), .int (nI (mo + 1)), jk, jk] [] n I4 J R Q
              rw [← wt_sg c1]
              obtain ⟨g1, g2, g3, _⟩ := fk_ok hc k (q.1 + 1, (emL w q).2) r hp (by show (emL w q).2.1 ≤ q.1 + 1; omega) hfa
              have g2 : q.1 + 1 < r.1 := g2
              have g4 : r.2.1 + (q.1 + 1) + 0 ≤ r.1 + (emL w q).2.1 + 0 := g1.2.2.2.1
              exact ih (mo + 1) (sgL (c q.1)) r I4 (by omega) (by omega) (hC.keep ((FLx.up I (nI (q.1 + 1)) (by decide)).trans f4)) p4 g1.2.1 (by rw [show wz (sgL (c q.1)) = 1 from if_neg c1]; omega) (((OXL.from ((FLx.up I (nI (q.1 + 1)) (by decide)).trans f4)) hQ).rw (e0.trans (bnd_r hfa)))
        · rw [show wtI w = nI (whc w) from if_neg h0]
          have z1 : wz w = 1 := if_neg h0
          refine E_iload_n dX4_sum_14 rfl ?_
          refine E_sp (nI 240) dX4_sum_15 (by decide) ?_
          refine E_cN_ge (a := mo) (b := 240) (tgt := 122) dX4_sum_18 (by omega) (by decide) (by decide) (fun cw18 => absurd cw18 (by omega)) (fun cw18 => ?_)
          refine E_ldcS (i := 3) dX4_sum_21 rfl ?_
          refine E_aload_n dX4_sum_23 rfl ?_
          refine E_callV (As := []) (ci := 4) (kc' := 0) (ks' := 0) (kc := 0) (ks := 0) dX4_sum_24 ok_X4_next w_X4_51 i_X4_next s_X4_next rfl (by decide) rfl (Nat.lt_of_lt_of_le (by decide) hN) rfl rfl rfl (Nat.le_of_ble_eq_true rfl) (Nat.le_of_ble_eq_true rfl) (by omega) (x_nextL (d := 0) hN hR hc hL hC (p := q.1) (by omega) (hP.1) ?_)
          refine E_callSN (As := [_, _]) (kc' := 0) (ks' := 0) (kc := 0) (ks := 0) dX4_sum_27 ok_X11_placeIn w_X4_64 st_X11_placeIn rfl rfl rfl (Nat.le_of_ble_eq_true rfl) (Nat.le_of_ble_eq_true rfl) (by omega) (c_placeIn (d := 0) (i := 3) rfl ?_)
          refine E.top ((pl_sg (c q.1)).trans (if_neg c1)) ?_
          refine E_zN_lt (a := sgL (c q.1) - 2) (tgt := 122) dX4_sum_30 (by omega) (by decide) (fun cw30 => cw30.elim) (fun cw30 => ?_)
          refine E_aload_n dX4_sum_33 rfl ?_
          refine E_callV (As := []) (ci := 4) (kc' := 0) (ks' := 0) (kc := 0) (ks := 0) dX4_sum_34 ok_X4_next w_X4_51 i_X4_next s_X4_next rfl (by decide) rfl (Nat.lt_of_lt_of_le (by decide) hN) rfl rfl rfl (Nat.le_of_ble_eq_true rfl) (Nat.le_of_ble_eq_true rfl) (by omega) (x_nextL (d := 0) hN hR hc hL hC (p := q.1) (by omega) hP.1 ?_)
          refine E.top (show chI (c (q.1)) = nI (c (q.1)) from if_pos s1) ?_
          refine E_istore dX4_sum_37 (Nat.le_of_ble_eq_true rfl) ?_
          refine E_aload_n dX4_sum_39 rfl ?_
          refine E_dup dX4_sum_40 rfl ?_
          refine E_getI dX4_sum_41 f_X4_29 rfl (Nat.lt_of_lt_of_le (by decide) hN) rfl ?_
          refine E.top (hP.1) ?_
          refine E_ic (nI 1) dX4_sum_44 (by decide) ?_
          refine E_iadd dX4_sum_45 ?_
          refine E.top (nI_add (q.1) 1) ?_
          refine E_putI dX4_sum_46 f_X4_29 rfl (Nat.lt_of_lt_of_le (by decide) hN) rfl ?_
          refine E_iload dX4_sum_49 rfl ?_
          refine E_bp (nI 43) dX4_sum_51 (by decide) ?_
          refine E_cN_eq (a := c (q.1)) (b := 43) (tgt := 63) dX4_sum_53 (by omega) (by decide) (by decide) (fun cw53 => ?_) (fun cw53 => ?_)
          · refine E_ic (nI 1) dX4_sum_63 (by decide) ?_
            refine E_goto (tgt := 68) dX4_sum_64 (by decide) ?_
            refine E_istore dX4_sum_68 (Nat.le_of_ble_eq_true rfl) ?_
            refine E_iload dX4_sum_70 rfl ?_
            refine E_zN_eq (a := 1) (tgt := 87) dX4_sum_72 (by decide) (by decide) (fun cw72 => absurd cw72 (by omega)) (fun cw72 => ?_)
            refine E_iload_n dX4_sum_75 rfl ?_
            refine E_ic (-1) dX4_sum_76 (by decide) ?_
            refine E_icmp_eq (tgt := 87) dX4_sum_77 (by decide) (fun cw77 => by first | exact absurd cw77 (nI_m1 (Nat.lt_trans wc_lt (by decide))) | exact absurd (nI_m1 (Nat.lt_trans wc_lt (by decide))) cw77) (fun cw77 => ?_)
            refine E_aload_n dX4_sum_80 rfl ?_
            refine E_iload_n dX4_sum_81 rfl ?_
            refine E_ic (nI 0) dX4_sum_82 (by decide) ?_
            refine E_callV (As := [_, _]) (ci := 4) (kc' := 0) (ks' := 0) (kc := 0) (ks := 0) dX4_sum_83 ok_X4_emit w_X4_93 i_X4_emit s_X4_emit rfl (by decide) rfl (Nat.lt_of_lt_of_le (by decide) hN) rfl rfl rfl (Nat.le_of_ble_eq_true rfl) (Nat.le_of_ble_eq_true rfl) (by omega) (x_emitL (d := 0) (op := w) (v := 0) (q := (q.1 + 1, q.2)) hN hR (by show q.2.1 < 240; omega) (by decide) (hP.at (q.1 + 1)) (fun I2 f2 p2 => ?_))
            refine E_pop dX4_sum_86 rfl ?_
            refine E_aload_n dX4_sum_87 rfl ?_
            refine E_iload_n dX4_sum_88 rfl ?_
            refine E_callV (As := [_]) (ci := 4) (kc' := 0) (ks' := 0) (kc := 0) (ks := 0) dX4_sum_89 ok_X4_factor w_X4_96 i_X4_factor s_X4_factor rfl (by decide) rfl (Nat.lt_of_lt_of_le (by decide) hN) rfl rfl rfl (Nat.le_of_ble_eq_true rfl) (Nat.le_of_ble_eq_true rfl) (by omega) (hf g (d - 1) n _ J R _ (q.1 + 1, (emL w q).2) (by omega) hN hR (hC.keep ((FLx.up I (nI (q.1 + 1)) (by decide)).trans f2)) (by rw [show (emL w q).2 = (q.2.1 + 1, cdU q.2.2 q.2.1 (w, 0)) by rw [emL_n h0]]; exact p2) hp (by show (emL w q).2.1 ≤ q.1 + 1; omega) ?_)
            cases hfa : fkL c k (q.1 + 1, (emL w q).2) with
            | inl x =>
              intro I4 f4 e4
              refine E_zN_ne (a := 0) (tgt := 97) dX4_sum_92 (by decide) (by decide) (fun cw92 => absurd cw92 (by omega)) (fun cw92 => ?_)
              refine E_ic (nI 0) dX4_sum_95 (by decide) ?_
              exact E_zret dX4_sum_96 rfl (by decide) ((hQ.l (e0.trans (bnd_l hfa))) I4 (((FLx.up I (nI (q.1 + 1)) (by decide)).trans f2).trans f4) e4)
            | inr r =>
              intro I4 f4 p4
              refine E_zN_ne (a := 1) (tgt := 97) dX4_sum_92 (by decide) (by decide) (fun cw92 => ?_) (fun cw92 => absurd cw92 (by omega))
              refine E_iload dX4_sum_97 rfl ?_
              refine E_zN_eq (a := 1) (tgt := 108) dX4_sum_99 (by decide) (by decide) (fun cw99 => absurd cw99 (by omega)) (fun cw99 => ?_)
              refine E_iload dX4_sum_102 rfl ?_
              refine E_istore_n dX4_sum_104 (Nat.le_of_ble_eq_true rfl) ?_
              refine E_goto (tgt := 116) dX4_sum_105 (by decide) ?_
              refine E_incN dX4_sum_116 rfl ?_
              refine E_goto (tgt := 14) dX4_sum_119 (by decide) ?_
              refine E.mask [true, true, true, true, false, false] ?_
              show E g mX4_sum d 0 0 14 [.ref 11, .int (nI (6 - k)), .int (nI (c q.1)), .int (nI (mo + 1)), jk, jk] [] n I4 J R Q
              rw [← wt_sg c1]
              obtain ⟨g1, g2, g3, _⟩ := fk_ok hc k (q.1 + 1, (emL w q).2) r hp (by show (emL w q).2.1 ≤ q.1 + 1; omega) hfa
              have g2 : q.1 + 1 < r.1 := g2
              have g4 : r.2.1 + (q.1 + 1) + 0 ≤ r.1 + (emL w q).2.1 + 0 := g1.2.2.2.1
              exact ih (mo + 1) (sgL (c q.1)) r I4 (by omega) (by omega) (hC.keep (((FLx.up I (nI (q.1 + 1)) (by decide)).trans f2).trans f4)) p4 g1.2.1 (by rw [show wz (sgL (c q.1)) = 1 from if_neg c1]; omega) (((OXL.from (((FLx.up I (nI (q.1 + 1)) (by decide)).trans f2).trans f4)) hQ).rw (e0.trans (bnd_r hfa)))
          · refine E_iload dX4_sum_56 rfl ?_
            refine E_bp (nI 45) dX4_sum_58 (by decide) ?_
            refine E_cN_ne (a := c (q.1)) (b := 45) (tgt := 67) dX4_sum_60 (by omega) (by decide) (by decide) (fun cw60 => absurd cw60 (by omega)) (fun cw60 => ?_)
            refine E_ic (nI 1) dX4_sum_63 (by decide) ?_
            refine E_goto (tgt := 68) dX4_sum_64 (by decide) ?_
            refine E_istore dX4_sum_68 (Nat.le_of_ble_eq_true rfl) ?_
            refine E_iload dX4_sum_70 rfl ?_
            refine E_zN_eq (a := 1) (tgt := 87) dX4_sum_72 (by decide) (by decide) (fun cw72 => absurd cw72 (by omega)) (fun cw72 => ?_)
            refine E_iload_n dX4_sum_75 rfl ?_
            refine E_ic (-1) dX4_sum_76 (by decide) ?_
            refine E_icmp_eq (tgt := 87) dX4_sum_77 (by decide) (fun cw77 => by first | exact absurd cw77 (nI_m1 (Nat.lt_trans wc_lt (by decide))) | exact absurd (nI_m1 (Nat.lt_trans wc_lt (by decide))) cw77) (fun cw77 => ?_)
            refine E_aload_n dX4_sum_80 rfl ?_
            refine E_iload_n dX4_sum_81 rfl ?_
            refine E_ic (nI 0) dX4_sum_82 (by decide) ?_
            refine E_callV (As := [_, _]) (ci := 4) (kc' := 0) (ks' := 0) (kc := 0) (ks := 0) dX4_sum_83 ok_X4_emit w_X4_93 i_X4_emit s_X4_emit rfl (by decide) rfl (Nat.lt_of_lt_of_le (by decide) hN) rfl rfl rfl (Nat.le_of_ble_eq_true rfl) (Nat.le_of_ble_eq_true rfl) (by omega) (x_emitL (d := 0) (op := w) (v := 0) (q := (q.1 + 1, q.2)) hN hR (by show q.2.1 < 240; omega) (by decide) (hP.at (q.1 + 1)) (fun I2 f2 p2 => ?_))
            refine E_pop dX4_sum_86 rfl ?_
            refine E_aload_n dX4_sum_87 rfl ?_
            refine E_iload_n dX4_sum_88 rfl ?_
            refine E_callV (As := [_]) (ci := 4) (kc' := 0) (ks' := 0) (kc := 0) (ks := 0) dX4_sum_89 ok_X4_factor w_X4_96 i_X4_factor s_X4_factor rfl (by decide) rfl (Nat.lt_of_lt_of_le (by decide) hN) rfl rfl rfl (Nat.le_of_ble_eq_true rfl) (Nat.le_of_ble_eq_true rfl) (by omega) (hf g (d - 1) n _ J R _ (q.1 + 1, (emL w q).2) (by omega) hN hR (hC.keep ((FLx.up I (nI (q.1 + 1)) (by decide)).trans f2)) (by rw [show (emL w q).2 = (q.2.1 + 1, cdU q.2.2 q.2.1 (w, 0)) by rw [emL_n h0]]; exact p2) hp (by show (emL w q).2.1 ≤ q.1 + 1; omega) ?_)
            cases hfa : fkL c k (q.1 + 1, (emL w q).2) with
            | inl x =>
              intro I4 f4 e4
              refine E_zN_ne (a := 0) (tgt := 97) dX4_sum_92 (by decide) (by decide) (fun cw92 => absurd cw92 (by omega)) (fun cw92 => ?_)
              refine E_ic (nI 0) dX4_sum_95 (by decide) ?_
              exact E_zret dX4_sum_96 rfl (by decide) ((hQ.l (e0.trans (bnd_l hfa))) I4 (((FLx.up I (nI (q.1 + 1)) (by decide)).trans f2).trans f4) e4)
            | inr r =>
              intro I4 f4 p4
              refine E_zN_ne (a := 1) (tgt := 97) dX4_sum_92 (by decide) (by decide) (fun cw92 => ?_) (fun cw92 => absurd cw92 (by omega))
              refine E_iload dX4_sum_97 rfl ?_
              refine E_zN_eq (a := 1) (tgt := 108) dX4_sum_99 (by decide) (by decide) (fun cw99 => absurd cw99 (by omega)) (fun cw99 => ?_)
              refine E_iload dX4_sum_102 rfl ?_
              refine E_istore_n dX4_sum_104 (Nat.le_of_ble_eq_true rfl) ?_
              refine E_goto (tgt := 116) dX4_sum_105 (by decide) ?_
              refine E_incN dX4_sum_116 rfl ?_
              refine E_goto (tgt := 14) dX4_sum_119 (by decide) ?_
              refine E.mask [true, true, true, true, false, false] ?_
              show E g mX4_sum d 0 0 14 [.ref 11, .int (nI (6 - k)), .int (nI (c q.1)), .int (nI (mo + 1)), jk, jk] [] n I4 J R Q
              rw [← wt_sg c1]
              obtain ⟨g1, g2, g3, _⟩ := fk_ok hc k (q.1 + 1, (emL w q).2) r hp (by show (emL w q).2.1 ≤ q.1 + 1; omega) hfa
              have g2 : q.1 + 1 < r.1 := g2
              have g4 : r.2.1 + (q.1 + 1) + 0 ≤ r.1 + (emL w q).2.1 + 0 := g1.2.2.2.1
              exact ih (mo + 1) (sgL (c q.1)) r I4 (by omega) (by omega) (hC.keep (((FLx.up I (nI (q.1 + 1)) (by decide)).trans f2).trans f4)) p4 g1.2.1 (by rw [show wz (sgL (c q.1)) = 1 from if_neg c1]; omega) (((OXL.from (((FLx.up I (nI (q.1 + 1)) (by decide)).trans f2).trans f4)) hQ).rw (e0.trans (bnd_r hfa)))
      · have e0 : slL c (fkL c k) (e + 1) w q = bnd (fkL c k (q.1 + 1, q.2)) (fun r => slL c (fkL c k) e w (emL (sgL (c q.1)) r)) := (if_neg c1).trans (if_neg c2)
        have s43 : ¬ (c q.1 = 43 ∨ c q.1 = 45) := fun z => c2 (sw.mpr z)
        refine E_iload_n dX4_sum_14 rfl ?_
        refine E_sp (nI 240) dX4_sum_15 (by decide) ?_
        refine E_cN_ge (a := mo) (b := 240) (tgt := 122) dX4_sum_18 (by omega) (by decide) (by decide) (fun cw18 => absurd cw18 (by omega)) (fun cw18 => ?_)
        refine E_ldcS (i := 3) dX4_sum_21 rfl ?_
        refine E_aload_n dX4_sum_23 rfl ?_
        refine E_callV (As := []) (ci := 4) (kc' := 0) (ks' := 0) (kc := 0) (ks := 0) dX4_sum_24 ok_X4_next w_X4_51 i_X4_next s_X4_next rfl (by decide) rfl (Nat.lt_of_lt_of_le (by decide) hN) rfl rfl rfl (Nat.le_of_ble_eq_true rfl) (Nat.le_of_ble_eq_true rfl) (by omega) (x_nextL (d := 0) hN hR hc hL hC (p := q.1) (by omega) (hP.1) ?_)
        refine E_callSN (As := [_, _]) (kc' := 0) (ks' := 0) (kc := 0) (ks := 0) dX4_sum_27 ok_X11_placeIn w_X4_64 st_X11_placeIn rfl rfl rfl (Nat.le_of_ble_eq_true rfl) (Nat.le_of_ble_eq_true rfl) (by omega) (c_placeIn (d := 0) (i := 3) rfl ?_)
        refine E.top ((pl_sg (c q.1)).trans (if_neg c1)) ?_
        refine E_zN_lt (a := sgL (c q.1) - 2) (tgt := 122) dX4_sum_30 (by omega) (by decide) (fun cw30 => cw30.elim) (fun cw30 => ?_)
        refine E_aload_n dX4_sum_33 rfl ?_
        refine E_callV (As := []) (ci := 4) (kc' := 0) (ks' := 0) (kc := 0) (ks := 0) dX4_sum_34 ok_X4_next w_X4_51 i_X4_next s_X4_next rfl (by decide) rfl (Nat.lt_of_lt_of_le (by decide) hN) rfl rfl rfl (Nat.le_of_ble_eq_true rfl) (Nat.le_of_ble_eq_true rfl) (by omega) (x_nextL (d := 0) hN hR hc hL hC (p := q.1) (by omega) hP.1 ?_)
        refine E.top (show chI (c (q.1)) = nI (c (q.1)) from if_pos s1) ?_
        refine E_istore dX4_sum_37 (Nat.le_of_ble_eq_true rfl) ?_
        refine E_aload_n dX4_sum_39 rfl ?_
        refine E_dup dX4_sum_40 rfl ?_
        refine E_getI dX4_sum_41 f_X4_29 rfl (Nat.lt_of_lt_of_le (by decide) hN) rfl ?_
        refine E.top (hP.1) ?_
        refine E_ic (nI 1) dX4_sum_44 (by decide) ?_
        refine E_iadd dX4_sum_45 ?_
        refine E.top (nI_add (q.1) 1) ?_
        refine E_putI dX4_sum_46 f_X4_29 rfl (Nat.lt_of_lt_of_le (by decide) hN) rfl ?_
        refine E_iload dX4_sum_49 rfl ?_
        refine E_bp (nI 43) dX4_sum_51 (by decide) ?_
        refine E_cN_eq (a := c (q.1)) (b := 43) (tgt := 63) dX4_sum_53 (by omega) (by decide) (by decide) (fun cw53 => absurd cw53 (by omega)) (fun cw53 => ?_)
        refine E_iload dX4_sum_56 rfl ?_
        refine E_bp (nI 45) dX4_sum_58 (by decide) ?_
        refine E_cN_ne (a := c (q.1)) (b := 45) (tgt := 67) dX4_sum_60 (by omega) (by decide) (by decide) (fun cw60 => ?_) (fun cw60 => absurd cw60 (by omega))
        refine E_ic (nI 0) dX4_sum_67 (by decide) ?_
        refine E_istore dX4_sum_68 (Nat.le_of_ble_eq_true rfl) ?_
        refine E_iload dX4_sum_70 rfl ?_
        refine E_zN_eq (a := 0) (tgt := 87) dX4_sum_72 (by decide) (by decide) (fun cw72 => ?_) (fun cw72 => absurd cw72 (by omega))
        refine E_aload_n dX4_sum_87 rfl ?_
        refine E_iload_n dX4_sum_88 rfl ?_
        refine E_callV (As := [_]) (ci := 4) (kc' := 0) (ks' := 0) (kc := 0) (ks := 0) dX4_sum_89 ok_X4_factor w_X4_96 i_X4_factor s_X4_factor rfl (by decide) rfl (Nat.lt_of_lt_of_le (by decide) hN) rfl rfl rfl (Nat.le_of_ble_eq_true rfl) (Nat.le_of_ble_eq_true rfl) (by omega) (hf g (d - 1) n _ J R _ (q.1 + 1, q.2) (by omega) hN hR (hC.keep (FLx.up I (nI (q.1 + 1)) (by decide))) (hP.at (q.1 + 1)) hp (by show q.2.1 ≤ q.1 + 1; omega) ?_)
        cases hfa : fkL c k (q.1 + 1, q.2) with
        | inl x =>
          intro I4 f4 e4
          refine E_zN_ne (a := 0) (tgt := 97) dX4_sum_92 (by decide) (by decide) (fun cw92 => absurd cw92 (by omega)) (fun cw92 => ?_)
          refine E_ic (nI 0) dX4_sum_95 (by decide) ?_
          exact E_zret dX4_sum_96 rfl (by decide) ((hQ.l (e0.trans (bnd_l hfa))) I4 ((FLx.up I (nI (q.1 + 1)) (by decide)).trans f4) e4)
        | inr r =>
          intro I4 f4 p4
          obtain ⟨g1, g2, g3, _⟩ := fk_ok hc k (q.1 + 1, q.2) r hp (by show q.2.1 ≤ q.1 + 1; omega) hfa
          have g2 : q.1 + 1 < r.1 := g2
          have g4 : r.2.1 + (q.1 + 1) + 0 ≤ r.1 + q.2.1 + 0 := g1.2.2.2.1
          have g5 := g1.2.1
          refine E_zN_ne (a := 1) (tgt := 97) dX4_sum_92 (by decide) (by decide) (fun cw92 => ?_) (fun cw92 => absurd cw92 (by omega))
          refine E_iload dX4_sum_97 rfl ?_
          refine E_zN_eq (a := 0) (tgt := 108) dX4_sum_99 (by decide) (by decide) (fun cw99 => ?_) (fun cw99 => absurd cw99 (by omega))
          refine E_aload_n dX4_sum_108 rfl ?_
          refine E_iload dX4_sum_109 rfl ?_
          refine E.top (congrArg nI (sg_wh c1).1.symm) ?_
          skip
          refine E_ic (nI 0) dX4_sum_111 (by decide) ?_
          refine E_callV (As := [_, _]) (ci := 4) (kc' := 0) (ks' := 0) (kc := 0) (ks := 0) dX4_sum_112 ok_X4_emit w_X4_93 i_X4_emit s_X4_emit rfl (by decide) rfl (Nat.lt_of_lt_of_le (by decide) hN) rfl rfl rfl (Nat.le_of_ble_eq_true rfl) (Nat.le_of_ble_eq_true rfl) (by omega) (x_emitL (d := 0) (op := sgL (c q.1)) (v := 0) (q := r) hN hR (by omega) (by decide) p4 (fun I2 f2 p2 => ?_))
          refine E_pop dX4_sum_115 rfl ?_
          refine E_incN dX4_sum_116 rfl ?_
          refine E_goto (tgt := 14) dX4_sum_119 (by decide) ?_
          refine E.mask [true, true, true, true, false, false] ?_
          obtain ep := emL_p (sgL (c q.1)) r
          have es : (emL (sgL (c q.1)) r).2.1 = r.2.1 + 1 := by rw [emL_n c1]
          refine ih (mo + 1) w (emL (sgL (c q.1)) r) I2 (by omega) hw (hC.keep (((FLx.up I (nI (q.1 + 1)) (by decide)).trans f4).trans f2)) (by rw [emL_n c1]; exact p2) (by rw [ep]; exact g1.2.1) (by rw [es, ep]; omega) (((OXL.from (((FLx.up I (nI (q.1 + 1)) (by decide)).trans f4).trans f2)) hQ).rw (e0.trans (bnd_r hfa)))
set_option maxRecDepth 100000 in
set_option maxHeartbeats 2000000 in
theorem x_sum1 {k : Nat} (hc : okc t L c) (hL : L ≤ 240) (hf : XFC t c L k) : XSM t c L k := by
  intro g d n I J R Q q hd hN hR hC hP hq hs hQ
  rw [smL_e] at hQ
  refine E_ic (-1) dX4_sum_0 (by decide) ?_
  refine E_istore_n dX4_sum_1 (Nat.le_of_ble_eq_true rfl) ?_
  refine E_aload_n dX4_sum_2 rfl ?_
  refine E_iload_n dX4_sum_3 rfl ?_
  refine E_callV (As := [_]) (ci := 4) (kc' := 0) (ks' := 0) (kc := 0) (ks := 0) dX4_sum_4 ok_X4_factor w_X4_96 i_X4_factor s_X4_factor rfl (by decide) rfl (Nat.lt_of_lt_of_le (by decide) hN) rfl rfl rfl (Nat.le_of_ble_eq_true rfl) (Nat.le_of_ble_eq_true rfl) (by omega) (hf g (d - 1) n _ J R _ q (by omega) hN hR hC hP hq hs ?_)
  cases hfa : fkL c k q with
  | inl x =>
    intro I4 f4 e4
    refine E_zN_ne (a := 0) (tgt := 12) dX4_sum_7 (by decide) (by decide) (fun cw7 => absurd cw7 (by omega)) (fun cw7 => ?_)
    refine E_ic (nI 0) dX4_sum_10 (by decide) ?_
    exact E_zret dX4_sum_11 rfl (by decide) ((hQ.l (bnd_l hfa)) I4 f4 e4)
  | inr r =>
    intro I4 f4 p4
    refine E_zN_ne (a := 1) (tgt := 12) dX4_sum_7 (by decide) (by decide) (fun cw7 => ?_) (fun cw7 => absurd cw7 (by omega))
    refine E_ic (nI 0) dX4_sum_12 (by decide) ?_
    refine E_istore_n dX4_sum_13 (Nat.le_of_ble_eq_true rfl) ?_
    obtain ⟨g1, g2, g3, _⟩ := fk_ok hc k q r hq hs hfa
    have g4 := g1.2.2.2.1
    exact x_sumL hd hN hR hc hL hf 240 0 0 r I4 rfl (Or.inl rfl) (hC.keep f4) p4 g1.2.1 (by show r.2.1 + 0 ≤ r.1; omega) ((OXL.from f4 hQ).rw (bnd_r hfa))
theorem x_sum (hc : okc t L c) (hL : L ≤ 240) : ∀ k, k ≤ 6 → XSM t c L k
  | 0, _ => x_sum1 hc hL (x_factor (by decide) hc hL (fun z => absurd rfl z))
  | k + 1, hk => x_sum1 hc hL (x_factor hk hc hL (fun _ => x_sum hc hL k (by omega)))
end PLawX2
