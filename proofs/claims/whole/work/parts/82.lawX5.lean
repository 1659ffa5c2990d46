/-! ===== law, the class ===== -/
def ROW (I : IM) (J : JM) (R : RM) (n : Nat) (Q : PQ) : Int32 ⊕ LWD → Prop
  | .inl x => ∀ I' : IM, FRx I I' → Q (some (.int x)) n I' J R
  | .inr w => ∀ I' : IM, FRx I I' → LDx w I' → (∀ i, i < wS w → I' 13 i = nI (whc (wC w i).1 + 256 * (wC w i).2)) → Q (some (.int (nI w.1))) n I' J R
theorem ROW.l {I : IM} {J : JM} {R : RM} {n : Nat} {Q : PQ} {y : Int32 ⊕ LWD} {x : Int32} (h : ROW I J R n Q y) (e : y = .inl x) : ∀ I' : IM, FRx I I' → Q (some (.int x)) n I' J R := by rw [e] at h; exact h
theorem ROW.r {I : IM} {J : JM} {R : RM} {n : Nat} {Q : PQ} {y : Int32 ⊕ LWD} {w : LWD} (h : ROW I J R n Q y) (e : y = .inr w) : ∀ I' : IM, FRx I I' → LDx w I' → (∀ i, i < wS w → I' 13 i = nI (whc (wC w i).1 + 256 * (wC w i).2)) → Q (some (.int (nI w.1))) n I' J R := by rw [e] at h; exact h
theorem ROW.from {I I1 : IM} {J : JM} {R : RM} {n : Nat} {Q : PQ} (h : FRx I I1) : ∀ {r : Int32 ⊕ LWD}, ROW I J R n Q r → ROW I1 J R n Q r
  | .inl _, q => fun I' a => q I' (h.trans a)
  | .inr _, q => fun I' a => q I' (h.trans a)
theorem ROW.rw {I : IM} {J : JM} {R : RM} {n : Nat} {Q : PQ} {y z : Int32 ⊕ LWD} (h : ROW I J R n Q y) (e : y = z) : ROW I J R n Q z := e ▸ h
section PLawX5
variable {g : GL} {d n : Nat} {I : IM} {J : JM} {R : RM} {Q : PQ} {t c : Nat → Nat} {L p : Nat} {w : LWD}
theorem lw_l {e p : Nat} {w : LWD} {x : Int32} (h : ruL c p w = .inl x) : lwL c (e + 1) p w = .inl x := by
  unfold lwL
  rw [h]
theorem lw_r {e p : Nat} {w : LWD} {r : Nat × LWD} (h : ruL c p w = .inr r) : lwL c (e + 1) p w = if 256 ≤ c r.1 then .inr r.2 else if c r.1 = 59 then lwL c e (r.1 + 1) r.2 else .inl (flt 1 r.1) := by
  conv => lhs; unfold lwL
  rw [h]
set_option maxRecDepth 100000 in
set_option maxHeartbeats 2000000 in
theorem x_readL (hd : 20 ≤ d) (hN : 152 ≤ n) (hR : RS R) (hc : okc t L c) (hL : L ≤ 240) : ∀ (e r p : Nat) (w : LWD) (I : IM), r + e = 17 → w.1 = r → p ≤ L → LWG w p → CLx t L I R → PLx (p, wS w, wC w) I → LDx w I → ROW I J R n Q (lwL c e p w) → E g mX4_read d 0 0 40 [.ref 11, .ref 2, .int (nI L), .int (nI r)] [] n I J R Q := by
  intro e
  induction e with
  | zero =>
    intro r p w I hre hwr hp hw hC hP hD hQ
    exact absurd hw.1 (by omega)
  | succ e ih =>
    intro r p w I hre hwr hp hw hC hP hD hQ
    have w16 := hw.1
    refine E_iload_n dX4_read_40 rfl ?_
    refine E_bp (nI 16) dX4_read_41 (by decide) ?_
    refine E_cN_gt (a := r) (b := 16) (tgt := 94) dX4_read_43 (by omega) (by decide) (by decide) (fun cw43 => absurd cw43 (by omega)) (fun cw43 => ?_)
    refine E_aload_n dX4_read_46 rfl ?_
    refine E_callV (As := []) (ci := 4) (kc' := 0) (ks' := 0) (kc := 0) (ks := 0) dX4_read_47 ok_X4_rule w_X4_47 i_X4_rule s_X4_rule rfl (by decide) rfl (Nat.lt_of_lt_of_le (by decide) hN) rfl rfl rfl (Nat.le_of_ble_eq_true rfl) (Nat.le_of_ble_eq_true rfl) (by omega) (x_rule (d := d - 1) (p := p) (w := w) (by omega) hN hR hc hL hC hp hw hP hD ?_)
    cases hru : ruL c p w with
    | inl x =>
      intro I4 f4 e4
      refine E_zN_ne (a := 0) (tgt := 58) dX4_read_50 (by decide) (by decide) (fun cw50 => absurd cw50 (by omega)) (fun cw50 => ?_)
      refine E_aload_n dX4_read_53 rfl ?_
      refine E_getI dX4_read_54 f_X4_35 rfl (Nat.lt_of_lt_of_le (by decide) hN) rfl ?_
      refine E.top (e4) ?_
      exact E_iret dX4_read_57 rfl ((hQ.l (lw_l hru)) I4 f4)
    | inr v =>
      intro I4 f4 p4 d4
      obtain ⟨g1, g2, g3, g4⟩ := ru_ok hc hL hw hru
      have en := ru_n hru
      by_cases c1 : 256 ≤ c v.1
      · skip
        refine E_zN_ne (a := 1) (tgt := 58) dX4_read_50 (by decide) (by decide) (fun cw50 => ?_) (fun cw50 => absurd cw50 (by omega))
        refine E_aload_n dX4_read_58 rfl ?_
        refine E_callV (As := []) (ci := 4) (kc' := 0) (ks' := 0) (kc := 0) (ks := 0) dX4_read_59 ok_X4_next w_X4_51 i_X4_next s_X4_next rfl (by decide) rfl (Nat.lt_of_lt_of_le (by decide) hN) rfl rfl rfl (Nat.le_of_ble_eq_true rfl) (Nat.le_of_ble_eq_true rfl) (by omega) (x_nextL (d := 0) hN hR hc hL (hC.keepR f4) (p := v.1) (by omega) p4.1 ?_)
        refine E_ic (-1) dX4_read_62 (by decide) ?_
        refine E_icmp_ne (tgt := 74) dX4_read_63 (by decide) (fun cw63 => by first | exact absurd cw63 (ch_end.mpr c1) | exact absurd (ch_end.mpr c1) cw63) (fun cw63 => ?_)
        refine E_aload_n dX4_read_66 rfl ?_
        refine E_getR dX4_read_67 f_X4_12 rfl (Nat.lt_of_lt_of_le (by decide) hN) rfl (hR _ _ _ rfl) ?_
        refine E_getI dX4_read_70 f_X4_44 rfl (Nat.lt_of_lt_of_le (by decide) hN) rfl ?_
        refine E.top (d4.1) ?_
        exact E_iret dX4_read_73 rfl ((hQ.r ((lw_r hru).trans (if_pos c1))) I4 f4 d4 (fun i hi => p4.2.2 i hi))
      · skip
        refine E_zN_ne (a := 1) (tgt := 58) dX4_read_50 (by decide) (by decide) (fun cw50 => ?_) (fun cw50 => absurd cw50 (by omega))
        refine E_aload_n dX4_read_58 rfl ?_
        refine E_callV (As := []) (ci := 4) (kc' := 0) (ks' := 0) (kc := 0) (ks := 0) dX4_read_59 ok_X4_next w_X4_51 i_X4_next s_X4_next rfl (by decide) rfl (Nat.lt_of_lt_of_le (by decide) hN) rfl rfl rfl (Nat.le_of_ble_eq_true rfl) (Nat.le_of_ble_eq_true rfl) (by omega) (x_nextL (d := 0) hN hR hc hL (hC.keepR f4) (p := v.1) (by omega) p4.1 ?_)
        refine E_ic (-1) dX4_read_62 (by decide) ?_
        refine E_icmp_ne (tgt := 74) dX4_read_63 (by decide) (fun cw63 => ?_) (fun cw63 => by first | exact absurd cw63 ((fun z => c1 (ch_end.mp z))) | exact absurd ((fun z => c1 (ch_end.mp z))) cw63)
        refine E_aload_n dX4_read_74 rfl ?_
        refine E_bp (nI 59) dX4_read_75 (by decide) ?_
        refine E_callV (As := [_]) (ci := 4) (kc' := 0) (ks' := 0) (kc := 0) (ks := 0) dX4_read_77 ok_X4_passes w_X4_55 i_X4_passes s_X4_passes rfl (by decide) rfl (Nat.lt_of_lt_of_le (by decide) hN) rfl rfl rfl (Nat.le_of_ble_eq_true rfl) (Nat.le_of_ble_eq_true rfl) (by omega) (x_passesL (d := 0) (q := (v.1, wS v.2, wC v.2)) (z := 59) hN hR hc hL (hC.keepR f4) (by decide) g2 p4 ?_)
        cases hps : psL c 59 (v.1, wS v.2, wC v.2) with
        | inl x =>
          intro I5 f5 e5
          refine E_zN_ne (a := 0) (tgt := 88) dX4_read_80 (by decide) (by decide) (fun cw80 => absurd cw80 (by omega)) (fun cw80 => ?_)
          refine E_aload_n dX4_read_83 rfl ?_
          refine E_getI dX4_read_84 f_X4_35 rfl (Nat.lt_of_lt_of_le (by decide) hN) rfl ?_
          refine E.top (e5) ?_
          exact E_iret dX4_read_87 rfl (by
            have e9 : x = flt 1 v.1 := by
              unfold psL at hps
              by_cases z : c (v.1, wS v.2, wC v.2).1 = 59
              · rw [if_pos z] at hps
                cases hps
              · rw [if_neg z] at hps
                exact (Sum.inl.inj hps).symm
            have c2 : ¬ c v.1 = 59 := fun z => by
              unfold psL at hps
              rw [if_pos (show c (v.1, wS v.2, wC v.2).1 = 59 from z)] at hps
              cases hps
            rw [e9]
            exact (hQ.l ((lw_r hru).trans ((if_neg c1).trans (if_neg c2)))) I5 (f4.trans (FRx.of f5)))
        | inr v5 =>
          intro I5 f5 p5
          obtain ⟨c2, rfl⟩ := ps_i hps
          have c2 : c v.1 = 59 := c2
          have hpv := hc.lt (p := v.1) (by omega)
          refine E_zN_ne (a := 1) (tgt := 88) dX4_read_80 (by decide) (by decide) (fun cw80 => ?_) (fun cw80 => absurd cw80 (by omega))
          refine E_incN dX4_read_88 rfl ?_
          refine E_goto (tgt := 40) dX4_read_91 (by decide) ?_
          exact ih (r + 1) (v.1 + 1) v.2 I5 (by omega) (by omega) hpv ⟨g1.1, Nat.le_succ_of_le g1.2.1, g1.2.2⟩ ((hC.keepR f4).keep f5) p5 (d4.keep f5) ((ROW.from (f4.trans (FRx.of f5)) hQ).rw ((lw_r hru).trans ((if_neg c1).trans (if_pos c2))))
set_option maxRecDepth 100000 in
set_option maxHeartbeats 2000000 in
theorem x_readA (hd : 20 ≤ d) (hN : 152 ≤ n) (hR : RS R) (hc : okc t L c) (hL : L ≤ 240) (hT : ∀ j, j < L → I 2 j = nI (t j)) (hQ : ROW (up2 (up2 (up2 (up2 (up2 I 11 2 (nI L)) 11 3 (nI 0)) 11 4 (nI 0)) 11 5 (nI 0)) 12 7 (nI 0)) J (up2 R 11 1 (some 2)) n Q (laL c)) : E g mX4_read d 0 0 0 (ent 4 [.ref 11, .ref 2, .int (nI L)]) [] n I J R Q := by
  have hR1 : RS (up2 R 11 1 (some 2)) := RS.up hR rfl
  refine E_aload_n dX4_read_0 rfl ?_
  refine E_aload_n dX4_read_1 rfl ?_
  refine E_putR dX4_read_2 f_X4_22 rfl (Nat.lt_of_lt_of_le (by decide) hN) rfl (Or.inr ⟨_, rfl⟩) ?_
  refine E_aload_n dX4_read_5 rfl ?_
  refine E_iload_n dX4_read_6 rfl ?_
  refine E_aload_n dX4_read_7 rfl ?_
  refine E_alen dX4_read_8 rfl (Nat.lt_of_lt_of_le (by decide) hN) (by decide) (by decide) ?_
  refine E.top (show _ = nI 260 from rfl) ?_
  refine E_mmin dX4_read_9 w_X4_38 (Nat.le_of_ble_eq_true rfl) (by omega) ?_
  refine E.top (nI_min L 260 (by omega) (by omega)) ?_
  refine E.top (congrArg nI (show min L 260 = L by omega)) ?_
  refine E_putI dX4_read_12 f_X4_25 rfl (Nat.lt_of_lt_of_le (by decide) hN) rfl ?_
  refine E_aload_n dX4_read_15 rfl ?_
  refine E_ic (nI 0) dX4_read_16 (by decide) ?_
  refine E_putI dX4_read_17 f_X4_29 rfl (Nat.lt_of_lt_of_le (by decide) hN) rfl ?_
  refine E_aload_n dX4_read_20 rfl ?_
  refine E_ic (nI 0) dX4_read_21 (by decide) ?_
  refine E_putI dX4_read_22 f_X4_32 rfl (Nat.lt_of_lt_of_le (by decide) hN) rfl ?_
  refine E_aload_n dX4_read_25 rfl ?_
  refine E_ic (nI 0) dX4_read_26 (by decide) ?_
  refine E_putI dX4_read_27 f_X4_35 rfl (Nat.lt_of_lt_of_le (by decide) hN) rfl ?_
  refine E_aload_n dX4_read_30 rfl ?_
  refine E_getR dX4_read_31 f_X4_12 rfl (Nat.lt_of_lt_of_le (by decide) hN) rfl (hR1 _ _ _ rfl) ?_
  refine E_ic (nI 0) dX4_read_34 (by decide) ?_
  refine E_putI dX4_read_35 f_X4_44 rfl (Nat.lt_of_lt_of_le (by decide) hN) rfl ?_
  refine E_ic (nI 0) dX4_read_38 (by decide) ?_
  refine E_istore_n dX4_read_39 (Nat.le_of_ble_eq_true rfl) ?_
  refine x_readL (d := d) hd hN hR1 hc hL 17 0 0 lw0 _ rfl rfl (Nat.zero_le _) lw0_ok ⟨rfl, fun j hj => ?_, up2_s _ _ _ _⟩ ⟨rfl, rfl, fun i hi => absurd hi (Nat.not_lt_zero i)⟩ ⟨rfl, fun r hr => absurd hr (Nat.not_lt_zero r)⟩ hQ
  exact hT j hj
set_option maxRecDepth 100000 in
set_option maxHeartbeats 2000000 in
theorem x_take (hN : 152 ≤ n) (hR : RS R) (hQ : ∀ I2 : IM, (∀ x, (x < 3 ∨ 8 < x) → I2 x = I x) → I2 3 7 = I 12 7 → (∀ i, i < 240 → I2 4 i = I 13 i) → (∀ i, i < 16 → I2 5 i = I 14 i ∧ I2 6 i = I 15 i ∧ I2 7 i = I 16 i ∧ I2 8 i = I 17 i) → Q none n I2 J R) : E g mX3_take (d + 1) 0 0 0 (ent 2 [.ref 3, .ref 12]) [] n I J R Q := by
  refine E_aload_n dX3_take_0 rfl ?_
  refine E_getR dX3_take_1 f_X3_9 rfl (Nat.lt_of_lt_of_le (by decide) hN) rfl (hR _ _ _ rfl) ?_
  refine E_ic (nI 0) dX3_take_4 (by decide) ?_
  refine E_aload_n dX3_take_5 rfl ?_
  refine E_getR dX3_take_6 f_X3_9 rfl (Nat.lt_of_lt_of_le (by decide) hN) rfl (hR _ _ _ rfl) ?_
  refine E_ic (nI 0) dX3_take_9 (by decide) ?_
  refine E_sp (nI 240) dX3_take_10 (by decide) ?_
  refine E_copy dX3_take_13 w_X3_45 rfl rfl (by first | assumption | omega) (by first | assumption | omega) (by decide) rfl (by decide) (by decide) (Nat.le_of_ble_eq_true rfl) (by omega) ?_
  refine E_aload_n dX3_take_16 rfl ?_
  refine E_getR dX3_take_17 f_X3_15 rfl (Nat.lt_of_lt_of_le (by decide) hN) rfl (hR _ _ _ rfl) ?_
  refine E_ic (nI 0) dX3_take_20 (by decide) ?_
  refine E_aload_n dX3_take_21 rfl ?_
  refine E_getR dX3_take_22 f_X3_15 rfl (Nat.lt_of_lt_of_le (by decide) hN) rfl (hR _ _ _ rfl) ?_
  refine E_ic (nI 0) dX3_take_25 (by decide) ?_
  refine E_bp (nI 16) dX3_take_26 (by decide) ?_
  refine E_copy dX3_take_28 w_X3_45 rfl rfl (by first | assumption | omega) (by first | assumption | omega) (by decide) rfl (by decide) (by decide) (Nat.le_of_ble_eq_true rfl) (by omega) ?_
  refine E_aload_n dX3_take_31 rfl ?_
  refine E_getR dX3_take_32 f_X3_18 rfl (Nat.lt_of_lt_of_le (by decide) hN) rfl (hR _ _ _ rfl) ?_
  refine E_ic (nI 0) dX3_take_35 (by decide) ?_
  refine E_aload_n dX3_take_36 rfl ?_
  refine E_getR dX3_take_37 f_X3_18 rfl (Nat.lt_of_lt_of_le (by decide) hN) rfl (hR _ _ _ rfl) ?_
  refine E_ic (nI 0) dX3_take_40 (by decide) ?_
  refine E_bp (nI 16) dX3_take_41 (by decide) ?_
  refine E_copy dX3_take_43 w_X3_45 rfl rfl (by first | assumption | omega) (by first | assumption | omega) (by decide) rfl (by decide) (by decide) (Nat.le_of_ble_eq_true rfl) (by omega) ?_
  refine E_aload_n dX3_take_46 rfl ?_
  refine E_getR dX3_take_47 f_X3_21 rfl (Nat.lt_of_lt_of_le (by decide) hN) rfl (hR _ _ _ rfl) ?_
  refine E_ic (nI 0) dX3_take_50 (by decide) ?_
  refine E_aload_n dX3_take_51 rfl ?_
  refine E_getR dX3_take_52 f_X3_21 rfl (Nat.lt_of_lt_of_le (by decide) hN) rfl (hR _ _ _ rfl) ?_
  refine E_ic (nI 0) dX3_take_55 (by decide) ?_
  refine E_bp (nI 16) dX3_take_56 (by decide) ?_
  refine E_copy dX3_take_58 w_X3_45 rfl rfl (by first | assumption | omega) (by first | assumption | omega) (by decide) rfl (by decide) (by decide) (Nat.le_of_ble_eq_true rfl) (by omega) ?_
  refine E_aload_n dX3_take_61 rfl ?_
  refine E_getR dX3_take_62 f_X3_24 rfl (Nat.lt_of_lt_of_le (by decide) hN) rfl (hR _ _ _ rfl) ?_
  refine E_ic (nI 0) dX3_take_65 (by decide) ?_
  refine E_aload_n dX3_take_66 rfl ?_
  refine E_getR dX3_take_67 f_X3_24 rfl (Nat.lt_of_lt_of_le (by decide) hN) rfl (hR _ _ _ rfl) ?_
  refine E_ic (nI 0) dX3_take_70 (by decide) ?_
  refine E_bp (nI 16) dX3_take_71 (by decide) ?_
  refine E_copy dX3_take_73 w_X3_45 rfl rfl (by first | assumption | omega) (by first | assumption | omega) (by decide) rfl (by decide) (by decide) (Nat.le_of_ble_eq_true rfl) (by omega) ?_
  refine E_aload_n dX3_take_76 rfl ?_
  refine E_aload_n dX3_take_77 rfl ?_
  refine E_getI dX3_take_78 f_X3_41 rfl (Nat.lt_of_lt_of_le (by decide) hN) rfl ?_
  refine E_putI dX3_take_81 f_X3_41 rfl (Nat.lt_of_lt_of_le (by decide) hN) rfl ?_
  refine E_ret dX3_take_84 rfl (hQ _ (fun x hx => ?_) ?_ (fun i hi => ?_) (fun i hi => ?_))
  · rw [up2_o _ 3 _ _ x (by omega)]
    funext k
    show (if x = 8 then _ else if x = 7 then _ else if x = 6 then _ else if x = 5 then _ else if x = 4 then _ else I x k) = I x k
    rw [if_neg (by omega), if_neg (by omega), if_neg (by omega), if_neg (by omega), if_neg (by omega)]
  · rw [up2_s]
    rfl
  · rw [up2_o _ 3 _ _ 4 (by decide)]
    exact if_pos hi
  · rw [up2_o _ 3 _ _ 5 (by decide), up2_o _ 3 _ _ 6 (by decide), up2_o _ 3 _ _ 7 (by decide), up2_o _ 3 _ _ 8 (by decide)]
    exact ⟨if_pos hi, if_pos hi, if_pos hi, if_pos hi⟩
end PLawX5
