/-! ===== the texts with rounds, the class's rounds ===== -/
section PRoundsX2
variable {g : GL} {d n : Nat} {I : IM} {J : JM} {R : RM} {Q : PQ} {t c : Nat → Nat} {L most il p s : Nat} {f : FN}
set_option maxRecDepth 100000 in
set_option maxHeartbeats 2000000 in
theorem x_repeat {s2 tt : Nat} (hN : 152 ≤ n) (hR : RS R) (hs : s < s2) (ht : 1 ≤ tt) (h96 : s + (s2 - s) * tt ≤ 96) (hP : RPx p s2 f I) (hQ : ∀ I2 : IM, RFx I I2 → RPx p (s + (s2 - s) * tt) (rpF f (s2 - s) s2 ((s2 - s) * tt - (s2 - s))) I2 → Q none n I2 J R) : E g mX7_repeat (d + 1) 0 0 0 (ent 6 [.ref 20, .int (nI s), .int (nI tt)]) [] n I J R Q := by
  have hx : s2 - s ≤ (s2 - s) * tt := Nat.le_mul_of_pos_right _ ht
  have L : ∀ k, k ≤ ((s2 - s) * tt - (s2 - s)) → ∀ I2 : IM, ((∀ x, x ≠ 21 → I2 x = I x) ∧ ∀ i, i < s2 + k → I2 21 i = nI (rpF f (s2 - s) s2 k i)) → E g mX7_repeat (d + 1) 0 0 28 [.ref 20, .int (nI s), .int (nI tt), .int (nI (s2 - s)), .int (nI (s + (s2 - s) * tt)), .int (nI (s2 + k))] [] n I2 J R Q := by
    refine loopU ((s2 - s) * tt - (s2 - s)) (fun I2 hv => ?_) (fun k hk ih I2 hv => ?_)
    · refine E_iload dX7_repeat_28 rfl ?_
      refine E_iload dX7_repeat_30 rfl ?_
      refine E_cN_ge (a := s2 + ((s2 - s) * tt - (s2 - s))) (b := s + (s2 - s) * tt) (tgt := 57) dX7_repeat_32 (by omega) (by omega) (by decide) (fun cw32 => ?_) (fun cw32 => absurd cw32 (by omega))
      refine E_aload_n dX7_repeat_57 rfl ?_
      refine E_iload dX7_repeat_58 rfl ?_
      refine E_putI dX7_repeat_60 f_X7_25 rfl (Nat.lt_of_lt_of_le (by decide) hN) rfl ?_
      exact E_ret dX7_repeat_63 rfl (hQ _ ⟨fun x h1 h2 => (up2_o I2 20 _ _ x h1).trans (hv.1 x h2), (up2_k I2 _ (by decide)).trans (congrFun (hv.1 20 (by decide)) 2), (up2_k I2 _ (by decide)).trans (congrFun (hv.1 20 (by decide)) 5), (up2_k I2 _ (by decide)).trans (congrFun (hv.1 20 (by decide)) 7)⟩ ⟨(up2_k I2 _ (by decide)).trans ((congrFun (hv.1 20 (by decide)) 3).trans hP.1), up2_s _ _ _ _, fun i h1 h2 => (congrFun (up2_o I2 20 _ _ 21 (by decide)) i).trans (hv.2 i (by omega))⟩)
    · refine E_iload dX7_repeat_28 rfl ?_
      refine E_iload dX7_repeat_30 rfl ?_
      refine E_cN_ge (a := s2 + k) (b := s + (s2 - s) * tt) (tgt := 57) dX7_repeat_32 (by omega) (by omega) (by decide) (fun cw32 => absurd cw32 (by omega)) (fun cw32 => ?_)
      refine E_aload_n dX7_repeat_35 rfl ?_
      refine E_getR dX7_repeat_36 f_X7_9 rfl (Nat.lt_of_lt_of_le (by decide) hN) rfl (hR _ _ _ rfl) ?_
      refine E_iload dX7_repeat_39 rfl ?_
      refine E_aload_n dX7_repeat_41 rfl ?_
      refine E_getR dX7_repeat_42 f_X7_9 rfl (Nat.lt_of_lt_of_le (by decide) hN) rfl (hR _ _ _ rfl) ?_
      refine E_iload dX7_repeat_45 rfl ?_
      refine E_iload_n dX7_repeat_47 rfl ?_
      refine E_isub dX7_repeat_48 ?_
      refine E.top (pk_sub (a := s2 + k) (b := s2 - s) (by omega)) ?_
      refine E_ialdN dX7_repeat_49 rfl (Nat.lt_of_lt_of_le (by decide) hN) (by omega) ?_
      refine E.top (hv.2 _ (by omega)) ?_
      refine E_iastN dX7_repeat_50 rfl (Nat.lt_of_lt_of_le (by decide) hN) (by omega) ?_
      refine E_incN dX7_repeat_51 rfl ?_
      refine E_goto (tgt := 28) dX7_repeat_54 (by decide) ?_
      refine ih _ ⟨fun x hx => (up2_o I2 21 _ _ x hx).trans (hv.1 x hx), fun i hi => ?_⟩
      show up2 I2 21 _ _ 21 i = nI (up1 (rpF f (s2 - s) s2 k) (s2 + k) (rpF f (s2 - s) s2 k (s2 + k - (s2 - s))) i)
      by_cases e : i = s2 + k
      · subst e
        rw [show up1 (rpF f (s2 - s) s2 k) (s2 + k) (rpF f (s2 - s) s2 k (s2 + k - (s2 - s))) (s2 + k) = rpF f (s2 - s) s2 k (s2 + k - (s2 - s)) from if_pos rfl]
        exact up2_s _ _ _ _
      · rw [show up1 (rpF f (s2 - s) s2 k) (s2 + k) (rpF f (s2 - s) s2 k (s2 + k - (s2 - s))) i = rpF f (s2 - s) s2 k i from if_neg e, up2_k _ _ e]
        exact hv.2 i (by omega)
  refine E_aload_n dX7_repeat_0 rfl ?_
  refine E_getI dX7_repeat_1 f_X7_25 rfl (Nat.lt_of_lt_of_le (by decide) hN) rfl ?_
  refine E.top (hP.2.1) ?_
  refine E_iload_n dX7_repeat_4 rfl ?_
  refine E_isub dX7_repeat_5 ?_
  refine E.top (pk_sub (a := s2) (b := s) (by omega)) ?_
  refine E_istore_n dX7_repeat_6 (Nat.le_of_ble_eq_true rfl) ?_
  refine E_iload_n dX7_repeat_7 rfl ?_
  refine E_iload_n dX7_repeat_8 rfl ?_
  refine E_iload_n dX7_repeat_9 rfl ?_
  refine E_imul dX7_repeat_10 ?_
  refine E.top (pk_mul (s2 - s) tt) ?_
  refine E_iadd dX7_repeat_11 ?_
  refine E.top (nI_add s ((s2 - s) * tt)) ?_
  refine E_aload_n dX7_repeat_12 rfl ?_
  refine E_getR dX7_repeat_13 f_X7_9 rfl (Nat.lt_of_lt_of_le (by decide) hN) rfl (hR _ _ _ rfl) ?_
  refine E_alen dX7_repeat_16 rfl (Nat.lt_of_lt_of_le (by decide) hN) (by decide) (by decide) ?_
  refine E.top (show _ = nI 96 from rfl) ?_
  refine E_mmin dX7_repeat_17 w_X7_38 (Nat.le_of_ble_eq_true rfl) (by omega) ?_
  refine E.top (nI_min (s + ((s2 - s) * tt)) 96 (by omega) (by omega)) ?_
  refine E.top (congrArg nI (show min (s + (s2 - s) * tt) 96 = s + (s2 - s) * tt by omega)) ?_
  refine E_istore dX7_repeat_20 (Nat.le_of_ble_eq_true rfl) ?_
  refine E_aload_n dX7_repeat_22 rfl ?_
  refine E_getI dX7_repeat_23 f_X7_25 rfl (Nat.lt_of_lt_of_le (by decide) hN) rfl ?_
  refine E.top (hP.2.1) ?_
  refine E_istore dX7_repeat_26 (Nat.le_of_ble_eq_true rfl) ?_
  exact L 0 (Nat.zero_le _) I ⟨fun _ _ => rfl, fun i hi => hP.2.2 i (by omega) (by omega)⟩
set_option maxRecDepth 100000 in
set_option maxHeartbeats 2000000 in
theorem x_fin {dp p2 s2 tt : Nat} {f2 : FN} {I1 : IM} (hN : 152 ≤ n) (hR : RS R) (hC : CTx t L most il I R) (hm : most ≤ 96) (f1 : RFx I I1) (hP2 : RPx p2 s2 f2 I1) (hs : s < s2) (hs2 : s2 ≤ 97) (ht1 : 1 ≤ tt) (ht9 : tt ≤ 9) (hQ : ROx I J R n Q (finS most tt p s p2 s2 f2)) : E g mX7_single (d + 2) 0 0 103 [.ref 20, .int (nI dp), .int (nI p), .int (nI s), .int (nI tt)] [] n I1 J R Q := by
  refine E_iload_n dX7_single_103 rfl ?_
  refine E_aload_n dX7_single_104 rfl ?_
  refine E_getI dX7_single_105 f_X7_25 rfl (Nat.lt_of_lt_of_le (by decide) hN) rfl ?_
  refine E.top (hP2.2.1) ?_
  refine E_iload_n dX7_single_108 rfl ?_
  refine E_isub dX7_single_109 ?_
  refine E.top (pk_sub (a := s2) (b := s) (by omega)) ?_
  refine E_iload dX7_single_110 rfl ?_
  refine E_imul dX7_single_112 ?_
  refine E.top (pk_mul (s2 - s) tt) ?_
  refine E_iadd dX7_single_113 ?_
  refine E.top (nI_add s ((s2 - s) * tt)) ?_
  refine E_aload_n dX7_single_114 rfl ?_
  refine E_getI dX7_single_115 f_X7_28 rfl (Nat.lt_of_lt_of_le (by decide) hN) rfl ?_
  refine E.top ((hC.keep f1).2.1) ?_
  refine E_cN_le (a := s + ((s2 - s) * tt)) (b := most) (tgt := 129) dX7_single_118 (by have : (s2 - s) * tt ≤ 97 * 9 := Nat.mul_le_mul (by omega) (by omega); omega) (by omega) (by decide) (fun cw118 => ?_) (fun cw118 => ?_)
  · refine E_aload_n dX7_single_129 rfl ?_
    refine E_iload_n dX7_single_130 rfl ?_
    refine E_iload dX7_single_131 rfl ?_
    refine E_callV (As := [_, _]) (ci := 6) (kc' := 0) (ks' := 0) (kc := 0) (ks := 0) dX7_single_133 ok_X7_repeat w_X7_69 i_X7_repeat s_X7_repeat rfl (by decide) rfl (Nat.lt_of_lt_of_le (by decide) hN) rfl rfl rfl (Nat.le_of_ble_eq_true rfl) (Nat.le_of_ble_eq_true rfl) (Nat.le_refl _) (x_repeat (d := d) (p := p2) (s := s) (f := f2) hN hR hs ht1 (by omega) hP2 (fun I3 f3 p3 => ?_))
    refine E_ic (nI 1) dX7_single_136 (by decide) ?_
    exact E_zret dX7_single_137 rfl (by decide) (by first
        | (rw [show finS most tt p s p2 s2 f2 = .inl (flt 6 p) from if_pos cw118] at hQ; exact hQ _ (f1.trans (RFx.up _ _ (Or.inr (Or.inr rfl)))) (up2_s _ _ _ _))
        | (rw [show finS most tt p s p2 s2 f2 = .inr (p2, s + (s2 - s) * tt, rpF f2 (s2 - s) s2 ((s2 - s) * tt - (s2 - s))) from if_neg (by omega)] at hQ; exact hQ _ (f1.trans f3) p3))
  · refine E_aload_n dX7_single_121 rfl ?_
    refine E_bp (nI 6) dX7_single_122 (by decide) ?_
    refine E_iload_n dX7_single_124 rfl ?_
    refine E_callV (As := [_, _]) (ci := 6) (kc' := 0) (ks' := 0) (kc := 0) (ks := 0) dX7_single_125 ok_X7_fails w_X7_55 i_X7_fails s_X7_fails rfl (by decide) rfl (Nat.lt_of_lt_of_le (by decide) hN) rfl rfl rfl (Nat.le_of_ble_eq_true rfl) (Nat.le_of_ble_eq_true rfl) (Nat.le_refl _) (x_failsR (k := 6) (q := p) hN ?_)
    exact E_zret dX7_single_128 rfl (by decide) (by first
        | (rw [show finS most tt p s p2 s2 f2 = .inl (flt 6 p) from if_pos cw118] at hQ; exact hQ _ (f1.trans (RFx.up _ _ (Or.inr (Or.inr rfl)))) (up2_s _ _ _ _))
        | (rw [show finS most tt p s p2 s2 f2 = .inr (p2, s + (s2 - s) * tt, rpF f2 (s2 - s) s2 ((s2 - s) * tt - (s2 - s))) from if_neg (by omega)] at hQ; exact hQ _ (f1.trans f3) p3))
set_option maxRecDepth 100000 in
set_option maxHeartbeats 2000000 in
theorem x_sg0 (hN : 152 ≤ n) (hR : RS R) (hc : okc t L c) (hL : L ≤ 260) (hC : CTx t L most il I R) (hil : il ≤ 1) (hm : most ≤ 96) (hp : p ≤ L) (hs : s ≤ most) (hf : ∀ i, i < s → f i < (if il = 1 then 1600 else 6)) (hP : RPx p s f I) (hQ : ROx I J R n Q (lvS il most L c 0 p s f)) : E g mX7_single (d + 6) 0 0 0 (ent 5 [.ref 20, .int (nI 2)]) [] n I J R Q := by
  obtain ⟨t1, t2, t3⟩ := tm_ok (il := il) hc hp
  refine E_aload_n dX7_single_0 rfl ?_
  refine E_getI dX7_single_1 f_X7_22 rfl (Nat.lt_of_lt_of_le (by decide) hN) rfl ?_
  refine E.top (hP.1) ?_
  refine E_istore_n dX7_single_4 (Nat.le_of_ble_eq_true rfl) ?_
  refine E_aload_n dX7_single_5 rfl ?_
  refine E_getI dX7_single_6 f_X7_25 rfl (Nat.lt_of_lt_of_le (by decide) hN) rfl ?_
  refine E.top (hP.2.1) ?_
  refine E_istore_n dX7_single_9 (Nat.le_of_ble_eq_true rfl) ?_
  refine E_aload_n dX7_single_10 rfl ?_
  refine E_callV (As := []) (ci := 6) (kc' := 0) (ks' := 0) (kc := 0) (ks := 0) dX7_single_11 ok_X7_times w_X7_62 i_X7_times s_X7_times rfl (by decide) rfl (Nat.lt_of_lt_of_le (by decide) hN) rfl rfl rfl (Nat.le_of_ble_eq_true rfl) (Nat.le_of_ble_eq_true rfl) (Nat.le_refl _) (x_times hN hR hc hL hC hil hp hP (fun I1 f1 P1 => ?_))
  refine E_istore dX7_single_14 (Nat.le_of_ble_eq_true rfl) ?_
  refine E_iload dX7_single_16 rfl ?_
  refine E_zN_ne (a := (tmS il c p).1) (tgt := 31) dX7_single_18 (by omega) (by decide) (fun cw18 => ?_) (fun cw18 => ?_)
  · have h0 : ¬ (tmS il c p).1 = 0 := by omega
    refine E_aload_n dX7_single_31 rfl ?_
    refine E_callV (As := []) (ci := 6) (kc' := 0) (ks' := 0) (kc := 0) (ks := 0) dX7_single_32 ok_X7_next w_X7_51 i_X7_next s_X7_next rfl (by decide) rfl (Nat.lt_of_lt_of_le (by decide) hN) rfl rfl rfl (Nat.le_of_ble_eq_true rfl) (Nat.le_of_ble_eq_true rfl) (Nat.le_refl _) (x_next hN hR hc hL (hC.keep f1) (p := (tmS il c p).2) (by omega) (P1.1) ?_)
    refine E_bp (nI 40) dX7_single_35 (by decide) ?_
    refine E_icmp_ne (tgt := 86) dX7_single_37 (by decide) (fun cw37 => (fun h40 : ¬ c (tmS il c p).2 = 40 => ?_) (fun z => cw37 ((ch_eq (by decide)).mpr z))) (fun cw37 => (fun h40 : c (tmS il c p).2 = 40 => ?_) ((ch_eq (by decide)).mp cw37))
    · refine E_aload_n dX7_single_86 rfl ?_
      refine E_callV (As := []) (ci := 6) (kc' := 0) (ks' := 0) (kc := 0) (ks := 0) dX7_single_87 ok_X7_plain w_X7_65 i_X7_plain s_X7_plain rfl (by decide) rfl (Nat.lt_of_lt_of_le (by decide) hN) rfl rfl rfl (Nat.le_of_ble_eq_true rfl) (Nat.le_of_ble_eq_true rfl) (Nat.le_refl _) (x_plain (d := d) hN hR hc hL (hC.keep f1) hil t2 (by omega) P1 (fun q eq I2 f2 P2 => ?_) (fun r er I2 f2 P2 => ?_))
      · skip
        refine E_zN_ne (a := 0) (tgt := 103) dX7_single_90 (by decide) (by decide) (fun cw90 => absurd cw90 (by omega)) (fun cw90 => ?_)
        refine E_aload_n dX7_single_93 rfl ?_
        refine E_ic (nI 1) dX7_single_94 (by decide) ?_
        refine E_aload_n dX7_single_95 rfl ?_
        refine E_getI dX7_single_96 f_X7_22 rfl (Nat.lt_of_lt_of_le (by decide) hN) rfl ?_
        refine E.top (P2.1) ?_
        refine E_callV (As := [_, _]) (ci := 6) (kc' := 0) (ks' := 0) (kc := 0) (ks := 0) dX7_single_99 ok_X7_fails w_X7_55 i_X7_fails s_X7_fails rfl (by decide) rfl (Nat.lt_of_lt_of_le (by decide) hN) rfl rfl rfl (Nat.le_of_ble_eq_true rfl) (Nat.le_of_ble_eq_true rfl) (Nat.le_refl _) (x_failsR (k := 1) (q := q) hN ?_)
        exact E_zret dX7_single_102 rfl (by decide) (by rw [(show lvS il most L c 0 p s f = sgS il most c (fun _ _ _ => .inl 0) 0 p s f from rfl)] at hQ; unfold sgS at hQ; rw [if_neg h0, if_neg h40, eq] at hQ; exact hQ _ ((f1.trans f2).trans (RFx.up _ _ (Or.inr (Or.inr rfl)))) (up2_s _ _ _ _))
      · have er2 := (pn_ok (il := il) hc t2).2 r er
        refine E_if_ne (tgt := 103) dX7_single_90 (by decide) (fun cw90 => ?_) (fun cw90 => absurd cw90 (by decide))
        refine x_fin (d := d + 4) (p2 := r.2) (s2 := s + 1) (f2 := up1 f s r.1) hN hR hC hm (f1.trans f2) P2 (Nat.lt_succ_self s) (by omega) (by omega) t3 ?_
        rw [(show lvS il most L c 0 p s f = sgS il most c (fun _ _ _ => .inl 0) 0 p s f from rfl)] at hQ
        unfold sgS at hQ
        rw [if_neg h0, if_neg h40, er] at hQ
        exact hQ
    · refine E_iload_n dX7_single_40 rfl ?_
      refine E_ic (nI 2) dX7_single_41 (by decide) ?_
      refine E_cN_lt (a := 2) (b := 2) (tgt := 55) dX7_single_42 (by decide) (by decide) (by decide) (fun cw42 => absurd cw42 (by omega)) (fun cw42 => ?_)
      refine E_aload_n dX7_single_45 rfl ?_
      refine E_ic (nI 5) dX7_single_46 (by decide) ?_
      refine E_aload_n dX7_single_47 rfl ?_
      refine E_getI dX7_single_48 f_X7_22 rfl (Nat.lt_of_lt_of_le (by decide) hN) rfl ?_
      refine E.top (P1.1) ?_
      refine E_callV (As := [_, _]) (ci := 6) (kc' := 0) (ks' := 0) (kc := 0) (ks := 0) dX7_single_51 ok_X7_fails w_X7_55 i_X7_fails s_X7_fails rfl (by decide) rfl (Nat.lt_of_lt_of_le (by decide) hN) rfl rfl rfl (Nat.le_of_ble_eq_true rfl) (Nat.le_of_ble_eq_true rfl) (Nat.le_refl _) (x_failsR (k := 5) (q := (tmS il c p).2) hN ?_)
      exact E_zret dX7_single_54 rfl (by decide) (by rw [(show lvS il most L c 0 p s f = sgS il most c (fun _ _ _ => .inl 0) 0 p s f from rfl)] at hQ; unfold sgS at hQ; rw [if_neg h0, if_pos h40, if_pos rfl] at hQ; exact hQ _ (f1.trans (RFx.up _ _ (Or.inr (Or.inr rfl)))) (up2_s _ _ _ _))
  · refine E_aload_n dX7_single_21 rfl ?_
    refine E_ic (nI 1) dX7_single_22 (by decide) ?_
    refine E_aload_n dX7_single_23 rfl ?_
    refine E_getI dX7_single_24 f_X7_22 rfl (Nat.lt_of_lt_of_le (by decide) hN) rfl ?_
    refine E.top (P1.1) ?_
    refine E_callV (As := [_, _]) (ci := 6) (kc' := 0) (ks' := 0) (kc := 0) (ks := 0) dX7_single_27 ok_X7_fails w_X7_55 i_X7_fails s_X7_fails rfl (by decide) rfl (Nat.lt_of_lt_of_le (by decide) hN) rfl rfl rfl (Nat.le_of_ble_eq_true rfl) (Nat.le_of_ble_eq_true rfl) (Nat.le_refl _) (x_failsR (k := 1) (q := (tmS il c p).2) hN ?_)
    exact E_zret dX7_single_30 rfl (by decide) (by rw [(show lvS il most L c 0 p s f = sgS il most c (fun _ _ _ => .inl 0) 0 p s f from rfl)] at hQ; unfold sgS at hQ; rw [if_pos cw18] at hQ; exact hQ _ (f1.trans (RFx.up _ _ (Or.inr (Or.inr rfl)))) (up2_s _ _ _ _))
set_option maxRecDepth 100000 in
set_option maxHeartbeats 2000000 in
theorem x_sv0 (hN : 152 ≤ n) (hR : RS R) (hc : okc t L c) (hL : L ≤ 260) (hil : il ≤ 1) (hm : most ≤ 96) (hC : CTx t L most il I R) (hp : p ≤ L) (hs : s ≤ most) (hf : ∀ i, i < s → f i < (if il = 1 then 1600 else 6)) (hP : RPx p s f I) (hQ : ROx I J R n Q (svS c (lvS il most L c 0) L p s f)) : E g mX7_several (d + 7) 0 0 0 (ent 3 [.ref 20, .int (nI 2)]) [] n I J R Q := by
  have key : ∀ (e more : Nat), more + e = L → ∀ (I : IM) (p s : Nat) (f : FN), CTx t L most il I R → p ≤ L → s ≤ most → (∀ i, i < s → f i < (if il = 1 then 1600 else 6)) → RPx p s f I → ROx I J R n Q (svS c (lvS il most L c 0) e p s f) → E g mX7_several (d + 7) 0 0 2 [.ref 20, .int (nI 2), .int (nI more)] [] n I J R Q := by
    intro e
    induction e with
    | zero =>
      intro more hm2 I p s f hC hp hs hf hP hQ
      refine E_iload_n dX7_several_2 rfl ?_
      refine E_aload_n dX7_several_3 rfl ?_
      refine E_getI dX7_several_4 f_X7_18 rfl (Nat.lt_of_lt_of_le (by decide) hN) rfl ?_
      refine E.top (hC.1) ?_
      refine E_cN_ge (a := more) (b := L) (tgt := 45) dX7_several_7 (by omega) (by omega) (by decide) (fun cw7 => ?_) (fun cw7 => absurd cw7 (by omega))
      refine E_aload_n dX7_several_45 rfl ?_
      refine E_ic (nI 1) dX7_several_46 (by decide) ?_
      refine E_aload_n dX7_several_47 rfl ?_
      refine E_getI dX7_several_48 f_X7_22 rfl (Nat.lt_of_lt_of_le (by decide) hN) rfl ?_
      refine E.top (hP.1) ?_
      refine E_callV (As := [_, _]) (ci := 6) (kc' := 0) (ks' := 0) (kc := 0) (ks := 0) dX7_several_51 ok_X7_fails w_X7_55 i_X7_fails s_X7_fails rfl (by decide) rfl (Nat.lt_of_lt_of_le (by decide) hN) rfl rfl rfl (Nat.le_of_ble_eq_true rfl) (Nat.le_of_ble_eq_true rfl) (Nat.le_refl _) (x_failsR (k := 1) (q := p) hN ?_)
      exact E_zret dX7_several_54 rfl (by decide) (hQ _ (RFx.up _ _ (Or.inr (Or.inr rfl))) (up2_s _ _ _ _))
    | succ e ih =>
      intro more hm2 I p s f hC hp hs hf hP hQ
      refine E_iload_n dX7_several_2 rfl ?_
      refine E_aload_n dX7_several_3 rfl ?_
      refine E_getI dX7_several_4 f_X7_18 rfl (Nat.lt_of_lt_of_le (by decide) hN) rfl ?_
      refine E.top (hC.1) ?_
      refine E_cN_ge (a := more) (b := L) (tgt := 45) dX7_several_7 (by omega) (by omega) (by decide) (fun cw7 => absurd cw7 (by omega)) (fun cw7 => ?_)
      refine E_aload_n dX7_several_10 rfl ?_
      refine E_iload_n dX7_several_11 rfl ?_
      refine E_callV (As := [_]) (ci := 6) (kc' := 0) (ks' := 0) (kc := 0) (ks := 0) dX7_several_12 ok_X7_single w_X7_59 i_X7_single s_X7_single rfl (by decide) rfl (Nat.lt_of_lt_of_le (by decide) hN) rfl rfl rfl (Nat.le_of_ble_eq_true rfl) (Nat.le_of_ble_eq_true rfl) (Nat.le_refl _) (x_sg0 (d := d) hN hR hc hL hC hil hm hp hs hf hP ?_)
      rw [show svS c (lvS il most L c 0) (e + 1) p s f = (match lvS il most L c 0 p s f with | .inl x => .inl x | .inr r => if 256 ≤ c r.1 ∨ c r.1 = 41 then .inr r else svS c (lvS il most L c 0) e r.1 r.2.1 r.2.2) from rfl] at hQ
      cases hl : lvS il most L c 0 p s f with
      | inl x =>
        have hQ : ROx I J R n Q (.inl x) := by rw [hl] at hQ; exact hQ
        intro I4 f4 e4
        refine E_zN_ne (a := 0) (tgt := 20) dX7_several_15 (by decide) (by decide) (fun cw15 => absurd cw15 (by omega)) (fun cw15 => ?_)
        refine E_ic (nI 0) dX7_several_18 (by decide) ?_
        exact E_zret dX7_several_19 rfl (by decide) (hQ I4 f4 e4)
      | inr r =>
        have hQ : ROx I J R n Q (if 256 ≤ c r.1 ∨ c r.1 = 41 then .inr r else svS c (lvS il most L c 0) e r.1 r.2.1 r.2.2) := by rw [hl] at hQ; exact hQ
        obtain ⟨a1, a2, a3, a4, a5⟩ := lv_ok hc 0 p s f hp hf r hl
        intro I4 f4 P4
        refine E_zN_ne (a := 1) (tgt := 20) dX7_several_15 (by decide) (by decide) (fun cw15 => ?_) (fun cw15 => absurd cw15 (by omega))
        refine E_aload_n dX7_several_20 rfl ?_
        refine E_callV (As := []) (ci := 6) (kc' := 0) (ks' := 0) (kc := 0) (ks := 0) dX7_several_21 ok_X7_next w_X7_51 i_X7_next s_X7_next rfl (by decide) rfl (Nat.lt_of_lt_of_le (by decide) hN) rfl rfl rfl (Nat.le_of_ble_eq_true rfl) (Nat.le_of_ble_eq_true rfl) (Nat.le_refl _) (x_next hN hR hc hL (hC.keep f4) (p := r.1) (by omega) P4.1 ?_)
        refine E_ic (-1) dX7_several_24 (by decide) ?_
        refine E_icmp_eq (tgt := 37) dX7_several_25 (by decide) (fun cw25 => ?_) (fun cw25 => ?_)
        · refine E_ic (nI 1) dX7_several_37 (by decide) ?_
          exact E_zret dX7_several_38 rfl (by decide) (by first | (rw [if_pos (Or.inl (ch_end.mp cw25))] at hQ; exact hQ I4 f4 P4) | (rw [if_pos (Or.inr ((ch_eq (by decide)).mp cw34))] at hQ; exact hQ I4 f4 P4))
        · refine E_aload_n dX7_several_28 rfl ?_
          refine E_callV (As := []) (ci := 6) (kc' := 0) (ks' := 0) (kc := 0) (ks := 0) dX7_several_29 ok_X7_next w_X7_51 i_X7_next s_X7_next rfl (by decide) rfl (Nat.lt_of_lt_of_le (by decide) hN) rfl rfl rfl (Nat.le_of_ble_eq_true rfl) (Nat.le_of_ble_eq_true rfl) (Nat.le_refl _) (x_next hN hR hc hL (hC.keep f4) (p := r.1) (by omega) P4.1 ?_)
          refine E_bp (nI 41) dX7_several_32 (by decide) ?_
          refine E_icmp_ne (tgt := 39) dX7_several_34 (by decide) (fun cw34 => ?_) (fun cw34 => ?_)
          · refine E_incN dX7_several_39 rfl ?_
            refine E_goto (tgt := 2) dX7_several_42 (by decide) ?_
            refine ih (more + 1) (by omega) I4 r.1 r.2.1 r.2.2 (hC.keep f4) a2 a4 a5 P4 ?_
            rw [if_neg (fun z => z.elim (fun z => cw25 (ch_end.mpr z)) (fun z => cw34 ((ch_eq (by decide)).mpr z)))] at hQ
            exact ROx.from f4 hQ
          · refine E_ic (nI 1) dX7_several_37 (by decide) ?_
            exact E_zret dX7_several_38 rfl (by decide) (by first | (rw [if_pos (Or.inl (ch_end.mp cw25))] at hQ; exact hQ I4 f4 P4) | (rw [if_pos (Or.inr ((ch_eq (by decide)).mp cw34))] at hQ; exact hQ I4 f4 P4))
  refine E_ic (nI 0) dX7_several_0 (by decide) ?_
  refine E_istore_n dX7_several_1 (Nat.le_of_ble_eq_true rfl) ?_
  exact key L 0 (Nat.zero_add L) I p s f hC hp hs hf hP hQ
set_option maxRecDepth 100000 in
set_option maxHeartbeats 2000000 in
theorem x_sg1 (hN : 152 ≤ n) (hR : RS R) (hc : okc t L c) (hL : L ≤ 260) (hC : CTx t L most il I R) (hsv : ∀ {Q2 : PQ} {I : IM} {p s : Nat} {f : FN}, CTx t L most il I R → p ≤ L → s ≤ most → (∀ i, i < s → f i < (if il = 1 then 1600 else 6)) → RPx p s f I → ROx I J R n Q2 (svS c (lvS il most L c 0) L p s f) → E g mX7_several (d + 7) 0 0 0 (ent 3 [.ref 20, .int (nI 2)]) [] n I J R Q2) (hil : il ≤ 1) (hm : most ≤ 96) (hp : p ≤ L) (hs : s ≤ most) (hf : ∀ i, i < s → f i < (if il = 1 then 1600 else 6)) (hP : RPx p s f I) (hQ : ROx I J R n Q (lvS il most L c 1 p s f)) : E g mX7_single (d + 8) 0 0 0 (ent 5 [.ref 20, .int (nI 1)]) [] n I J R Q := by
  obtain ⟨t1, t2, t3⟩ := tm_ok (il := il) hc hp
  refine E_aload_n dX7_single_0 rfl ?_
  refine E_getI dX7_single_1 f_X7_22 rfl (Nat.lt_of_lt_of_le (by decide) hN) rfl ?_
  refine E.top (hP.1) ?_
  refine E_istore_n dX7_single_4 (Nat.le_of_ble_eq_true rfl) ?_
  refine E_aload_n dX7_single_5 rfl ?_
  refine E_getI dX7_single_6 f_X7_25 rfl (Nat.lt_of_lt_of_le (by decide) hN) rfl ?_
  refine E.top (hP.2.1) ?_
  refine E_istore_n dX7_single_9 (Nat.le_of_ble_eq_true rfl) ?_
  refine E_aload_n dX7_single_10 rfl ?_
  refine E_callV (As := []) (ci := 6) (kc' := 0) (ks' := 0) (kc := 0) (ks := 0) dX7_single_11 ok_X7_times w_X7_62 i_X7_times s_X7_times rfl (by decide) rfl (Nat.lt_of_lt_of_le (by decide) hN) rfl rfl rfl (Nat.le_of_ble_eq_true rfl) (Nat.le_of_ble_eq_true rfl) (Nat.le_refl _) (x_times hN hR hc hL hC hil hp hP (fun I1 f1 P1 => ?_))
  refine E_istore dX7_single_14 (Nat.le_of_ble_eq_true rfl) ?_
  refine E_iload dX7_single_16 rfl ?_
  refine E_zN_ne (a := (tmS il c p).1) (tgt := 31) dX7_single_18 (by omega) (by decide) (fun cw18 => ?_) (fun cw18 => ?_)
  · have h0 : ¬ (tmS il c p).1 = 0 := by omega
    refine E_aload_n dX7_single_31 rfl ?_
    refine E_callV (As := []) (ci := 6) (kc' := 0) (ks' := 0) (kc := 0) (ks := 0) dX7_single_32 ok_X7_next w_X7_51 i_X7_next s_X7_next rfl (by decide) rfl (Nat.lt_of_lt_of_le (by decide) hN) rfl rfl rfl (Nat.le_of_ble_eq_true rfl) (Nat.le_of_ble_eq_true rfl) (Nat.le_refl _) (x_next hN hR hc hL (hC.keep f1) (p := (tmS il c p).2) (by omega) (P1.1) ?_)
    refine E_bp (nI 40) dX7_single_35 (by decide) ?_
    refine E_icmp_ne (tgt := 86) dX7_single_37 (by decide) (fun cw37 => (fun h40 : ¬ c (tmS il c p).2 = 40 => ?_) (fun z => cw37 ((ch_eq (by decide)).mpr z))) (fun cw37 => (fun h40 : c (tmS il c p).2 = 40 => ?_) ((ch_eq (by decide)).mp cw37))
    · refine E_aload_n dX7_single_86 rfl ?_
      refine E_callV (As := []) (ci := 6) (kc' := 0) (ks' := 0) (kc := 0) (ks := 0) dX7_single_87 ok_X7_plain w_X7_65 i_X7_plain s_X7_plain rfl (by decide) rfl (Nat.lt_of_lt_of_le (by decide) hN) rfl rfl rfl (Nat.le_of_ble_eq_true rfl) (Nat.le_of_ble_eq_true rfl) (Nat.le_refl _) (x_plain (d := d + 2) hN hR hc hL (hC.keep f1) hil t2 (by omega) P1 (fun q eq I2 f2 P2 => ?_) (fun r er I2 f2 P2 => ?_))
      · skip
        refine E_zN_ne (a := 0) (tgt := 103) dX7_single_90 (by decide) (by decide) (fun cw90 => absurd cw90 (by omega)) (fun cw90 => ?_)
        refine E_aload_n dX7_single_93 rfl ?_
        refine E_ic (nI 1) dX7_single_94 (by decide) ?_
        refine E_aload_n dX7_single_95 rfl ?_
        refine E_getI dX7_single_96 f_X7_22 rfl (Nat.lt_of_lt_of_le (by decide) hN) rfl ?_
        refine E.top (P2.1) ?_
        refine E_callV (As := [_, _]) (ci := 6) (kc' := 0) (ks' := 0) (kc := 0) (ks := 0) dX7_single_99 ok_X7_fails w_X7_55 i_X7_fails s_X7_fails rfl (by decide) rfl (Nat.lt_of_lt_of_le (by decide) hN) rfl rfl rfl (Nat.le_of_ble_eq_true rfl) (Nat.le_of_ble_eq_true rfl) (Nat.le_refl _) (x_failsR (k := 1) (q := q) hN ?_)
        exact E_zret dX7_single_102 rfl (by decide) (by rw [(show lvS il most L c 1 p s f = sgS il most c (svS c (lvS il most L c 0) L) 1 p s f from rfl)] at hQ; unfold sgS at hQ; rw [if_neg h0, if_neg h40, eq] at hQ; exact hQ _ ((f1.trans f2).trans (RFx.up _ _ (Or.inr (Or.inr rfl)))) (up2_s _ _ _ _))
      · have er2 := (pn_ok (il := il) hc t2).2 r er
        refine E_if_ne (tgt := 103) dX7_single_90 (by decide) (fun cw90 => ?_) (fun cw90 => absurd cw90 (by decide))
        refine x_fin (d := d + 6) (p2 := r.2) (s2 := s + 1) (f2 := up1 f s r.1) hN hR hC hm (f1.trans f2) P2 (Nat.lt_succ_self s) (by omega) (by omega) t3 ?_
        rw [(show lvS il most L c 1 p s f = sgS il most c (svS c (lvS il most L c 0) L) 1 p s f from rfl)] at hQ
        unfold sgS at hQ
        rw [if_neg h0, if_neg h40, er] at hQ
        exact hQ
    · refine E_iload_n dX7_single_40 rfl ?_
      refine E_ic (nI 2) dX7_single_41 (by decide) ?_
      refine E_cN_lt (a := 1) (b := 2) (tgt := 55) dX7_single_42 (by decide) (by decide) (by decide) (fun cw42 => ?_) (fun cw42 => absurd cw42 (by omega))
      have tl := hc.lt (p := (tmS il c p).2) (by omega)
      have hok := fun r => sv_ok (e := L) (p := (tmS il c p).2 + 1) (s := s) (f := f) (B := if il = 1 then 1600 else 6) (most := most) hc (by omega) hf (fun q2 s2 f2 h2 h3 r2 h4 => lv_ok hc 0 q2 s2 f2 h2 h3 r2 h4) r
      refine E_aload_n dX7_single_55 rfl ?_
      refine E_dup dX7_single_56 rfl ?_
      refine E_getI dX7_single_57 f_X7_22 rfl (Nat.lt_of_lt_of_le (by decide) hN) rfl ?_
      refine E.top (P1.1) ?_
      refine E_ic (nI 1) dX7_single_60 (by decide) ?_
      refine E_iadd dX7_single_61 ?_
      refine E.top (nI_add ((tmS il c p).2) 1) ?_
      refine E_putI dX7_single_62 f_X7_22 rfl (Nat.lt_of_lt_of_le (by decide) hN) rfl ?_
      refine E_aload_n dX7_single_65 rfl ?_
      refine E_iload_n dX7_single_66 rfl ?_
      refine E_ic (nI 1) dX7_single_67 (by decide) ?_
      refine E_iadd dX7_single_68 ?_
      refine E.top (nI_add 1 1) ?_
      refine E_callV (As := [_]) (ci := 6) (kc' := 0) (ks' := 0) (kc := 0) (ks := 0) dX7_single_69 ok_X7_several w_X7_44 i_X7_several s_X7_several rfl (by decide) rfl (Nat.lt_of_lt_of_le (by decide) hN) rfl rfl rfl (Nat.le_of_ble_eq_true rfl) (Nat.le_of_ble_eq_true rfl) (Nat.le_refl _) (hsv (p := (tmS il c p).2 + 1) (s := s) (f := f) ((hC.keep f1).keep (RFx.up _ _ (Or.inl rfl))) (by omega) hs hf P1.at ?_)
      have hQ2 := hQ
      rw [(show lvS il most L c 1 p s f = sgS il most c (svS c (lvS il most L c 0) L) 1 p s f from rfl)] at hQ
      unfold sgS at hQ
      rw [if_neg h0, if_pos h40, if_neg (by decide)] at hQ
      cases hsv2 : svS c (lvS il most L c 0) L ((tmS il c p).2 + 1) s f with
      | inl x =>
        have hQ : ROx I J R n Q (.inl x) := by rw [hsv2] at hQ; exact hQ
        intro I4 f4 e4
        refine E_zN_eq (a := 0) (tgt := 84) dX7_single_72 (by decide) (by decide) (fun cw72 => ?_) (fun cw72 => absurd cw72 (by omega))
        refine E_ic (nI 0) dX7_single_84 (by decide) ?_
        exact E_zret dX7_single_85 rfl (by decide) (hQ I4 (f1.trans ((RFx.up _ _ (Or.inl rfl)).trans f4)) e4)
      | inr r =>
        have hQ : ROx I J R n Q (if c r.1 = 41 then finS most (tmS il c p).1 p s (r.1 + 1) r.2.1 r.2.2 else .inl (flt 1 r.1)) := by rw [hsv2] at hQ; exact hQ
        obtain ⟨a1, a2, a3, a4, a5⟩ := hok r hsv2
        intro I4 f4 P4
        refine E_zN_eq (a := 1) (tgt := 84) dX7_single_72 (by decide) (by decide) (fun cw72 => absurd cw72 (by omega)) (fun cw72 => ?_)
        refine E_aload_n dX7_single_75 rfl ?_
        refine E_bp (nI 41) dX7_single_76 (by decide) ?_
        refine E_callV (As := [_]) (ci := 6) (kc' := 0) (ks' := 0) (kc := 0) (ks := 0) dX7_single_78 ok_X7_closes w_X7_48 i_X7_closes s_X7_closes rfl (by decide) rfl (Nat.lt_of_lt_of_le (by decide) hN) rfl rfl rfl (Nat.le_of_ble_eq_true rfl) (Nat.le_of_ble_eq_true rfl) (Nat.le_refl _) (x_closes (d := d + 6) (sg := nI 41) hN hR hc hL ((hC.keep f1).keep ((RFx.up _ _ (Or.inl rfl)).trans f4)) (p := r.1) (s := r.2.1) (f := r.2.2) (by omega) P4 (fun h41 => ?_) (fun h41 => ?_))
        · skip
          refine E_if_ne (tgt := 103) dX7_single_81 (by decide) (fun cw81 => ?_) (fun cw81 => absurd cw81 (by decide))
          refine x_fin (d := d + 6) (p2 := r.1 + 1) (s2 := r.2.1) (f2 := r.2.2) hN hR hC hm (f1.trans ((RFx.up _ _ (Or.inl rfl)).trans (f4.trans (RFx.up _ _ (Or.inl rfl))))) P4.at a3 (by omega) (by omega) t3 ?_
          rw [if_pos ((ch_eq (by decide)).mp h41)] at hQ
          exact hQ
        · skip
          refine E_zN_ne (a := 0) (tgt := 103) dX7_single_81 (by decide) (by decide) (fun cw81 => absurd cw81 (by omega)) (fun cw81 => ?_)
          refine E_ic (nI 0) dX7_single_84 (by decide) ?_
          exact E_zret dX7_single_85 rfl (by decide) (by rw [if_neg (fun z => h41 ((ch_eq (by decide)).mpr z))] at hQ; exact hQ _ (f1.trans ((RFx.up _ _ (Or.inl rfl)).trans (f4.trans (RFx.up _ _ (Or.inr (Or.inr rfl)))))) (up2_s _ _ _ _))
  · refine E_aload_n dX7_single_21 rfl ?_
    refine E_ic (nI 1) dX7_single_22 (by decide) ?_
    refine E_aload_n dX7_single_23 rfl ?_
    refine E_getI dX7_single_24 f_X7_22 rfl (Nat.lt_of_lt_of_le (by decide) hN) rfl ?_
    refine E.top (P1.1) ?_
    refine E_callV (As := [_, _]) (ci := 6) (kc' := 0) (ks' := 0) (kc := 0) (ks := 0) dX7_single_27 ok_X7_fails w_X7_55 i_X7_fails s_X7_fails rfl (by decide) rfl (Nat.lt_of_lt_of_le (by decide) hN) rfl rfl rfl (Nat.le_of_ble_eq_true rfl) (Nat.le_of_ble_eq_true rfl) (Nat.le_refl _) (x_failsR (k := 1) (q := (tmS il c p).2) hN ?_)
    exact E_zret dX7_single_30 rfl (by decide) (by rw [(show lvS il most L c 1 p s f = sgS il most c (svS c (lvS il most L c 0) L) 1 p s f from rfl)] at hQ; unfold sgS at hQ; rw [if_pos cw18] at hQ; exact hQ _ (f1.trans (RFx.up _ _ (Or.inr (Or.inr rfl)))) (up2_s _ _ _ _))
set_option maxRecDepth 100000 in
set_option maxHeartbeats 2000000 in
theorem x_sv1 (hN : 152 ≤ n) (hR : RS R) (hc : okc t L c) (hL : L ≤ 260) (hil : il ≤ 1) (hm : most ≤ 96) (hC : CTx t L most il I R) (hp : p ≤ L) (hs : s ≤ most) (hf : ∀ i, i < s → f i < (if il = 1 then 1600 else 6)) (hP : RPx p s f I) (hQ : ROx I J R n Q (svS c (lvS il most L c 1) L p s f)) : E g mX7_several (d + 9) 0 0 0 (ent 3 [.ref 20, .int (nI 1)]) [] n I J R Q := by
  have key : ∀ (e more : Nat), more + e = L → ∀ (I : IM) (p s : Nat) (f : FN), CTx t L most il I R → p ≤ L → s ≤ most → (∀ i, i < s → f i < (if il = 1 then 1600 else 6)) → RPx p s f I → ROx I J R n Q (svS c (lvS il most L c 1) e p s f) → E g mX7_several (d + 9) 0 0 2 [.ref 20, .int (nI 1), .int (nI more)] [] n I J R Q := by
    intro e
    induction e with
    | zero =>
      intro more hm2 I p s f hC hp hs hf hP hQ
      refine E_iload_n dX7_several_2 rfl ?_
      refine E_aload_n dX7_several_3 rfl ?_
      refine E_getI dX7_several_4 f_X7_18 rfl (Nat.lt_of_lt_of_le (by decide) hN) rfl ?_
      refine E.top (hC.1) ?_
      refine E_cN_ge (a := more) (b := L) (tgt := 45) dX7_several_7 (by omega) (by omega) (by decide) (fun cw7 => ?_) (fun cw7 => absurd cw7 (by omega))
      refine E_aload_n dX7_several_45 rfl ?_
      refine E_ic (nI 1) dX7_several_46 (by decide) ?_
      refine E_aload_n dX7_several_47 rfl ?_
      refine E_getI dX7_several_48 f_X7_22 rfl (Nat.lt_of_lt_of_le (by decide) hN) rfl ?_
      refine E.top (hP.1) ?_
      refine E_callV (As := [_, _]) (ci := 6) (kc' := 0) (ks' := 0) (kc := 0) (ks := 0) dX7_several_51 ok_X7_fails w_X7_55 i_X7_fails s_X7_fails rfl (by decide) rfl (Nat.lt_of_lt_of_le (by decide) hN) rfl rfl rfl (Nat.le_of_ble_eq_true rfl) (Nat.le_of_ble_eq_true rfl) (Nat.le_refl _) (x_failsR (k := 1) (q := p) hN ?_)
      exact E_zret dX7_several_54 rfl (by decide) (hQ _ (RFx.up _ _ (Or.inr (Or.inr rfl))) (up2_s _ _ _ _))
    | succ e ih =>
      intro more hm2 I p s f hC hp hs hf hP hQ
      refine E_iload_n dX7_several_2 rfl ?_
      refine E_aload_n dX7_several_3 rfl ?_
      refine E_getI dX7_several_4 f_X7_18 rfl (Nat.lt_of_lt_of_le (by decide) hN) rfl ?_
      refine E.top (hC.1) ?_
      refine E_cN_ge (a := more) (b := L) (tgt := 45) dX7_several_7 (by omega) (by omega) (by decide) (fun cw7 => absurd cw7 (by omega)) (fun cw7 => ?_)
      refine E_aload_n dX7_several_10 rfl ?_
      refine E_iload_n dX7_several_11 rfl ?_
      refine E_callV (As := [_]) (ci := 6) (kc' := 0) (ks' := 0) (kc := 0) (ks := 0) dX7_several_12 ok_X7_single w_X7_59 i_X7_single s_X7_single rfl (by decide) rfl (Nat.lt_of_lt_of_le (by decide) hN) rfl rfl rfl (Nat.le_of_ble_eq_true rfl) (Nat.le_of_ble_eq_true rfl) (Nat.le_refl _) (x_sg1 (d := d) hN hR hc hL hC (fun a1 a2 a3 a4 a5 a6 => x_sv0 (d := d) hN hR hc hL hil hm a1 a2 a3 a4 a5 a6) hil hm hp hs hf hP ?_)
      rw [show svS c (lvS il most L c 1) (e + 1) p s f = (match lvS il most L c 1 p s f with | .inl x => .inl x | .inr r => if 256 ≤ c r.1 ∨ c r.1 = 41 then .inr r else svS c (lvS il most L c 1) e r.1 r.2.1 r.2.2) from rfl] at hQ
      cases hl : lvS il most L c 1 p s f with
      | inl x =>
        have hQ : ROx I J R n Q (.inl x) := by rw [hl] at hQ; exact hQ
        intro I4 f4 e4
        refine E_zN_ne (a := 0) (tgt := 20) dX7_several_15 (by decide) (by decide) (fun cw15 => absurd cw15 (by omega)) (fun cw15 => ?_)
        refine E_ic (nI 0) dX7_several_18 (by decide) ?_
        exact E_zret dX7_several_19 rfl (by decide) (hQ I4 f4 e4)
      | inr r =>
        have hQ : ROx I J R n Q (if 256 ≤ c r.1 ∨ c r.1 = 41 then .inr r else svS c (lvS il most L c 1) e r.1 r.2.1 r.2.2) := by rw [hl] at hQ; exact hQ
        obtain ⟨a1, a2, a3, a4, a5⟩ := lv_ok hc 1 p s f hp hf r hl
        intro I4 f4 P4
        refine E_zN_ne (a := 1) (tgt := 20) dX7_several_15 (by decide) (by decide) (fun cw15 => ?_) (fun cw15 => absurd cw15 (by omega))
        refine E_aload_n dX7_several_20 rfl ?_
        refine E_callV (As := []) (ci := 6) (kc' := 0) (ks' := 0) (kc := 0) (ks := 0) dX7_several_21 ok_X7_next w_X7_51 i_X7_next s_X7_next rfl (by decide) rfl (Nat.lt_of_lt_of_le (by decide) hN) rfl rfl rfl (Nat.le_of_ble_eq_true rfl) (Nat.le_of_ble_eq_true rfl) (Nat.le_refl _) (x_next hN hR hc hL (hC.keep f4) (p := r.1) (by omega) P4.1 ?_)
        refine E_ic (-1) dX7_several_24 (by decide) ?_
        refine E_icmp_eq (tgt := 37) dX7_several_25 (by decide) (fun cw25 => ?_) (fun cw25 => ?_)
        · refine E_ic (nI 1) dX7_several_37 (by decide) ?_
          exact E_zret dX7_several_38 rfl (by decide) (by first | (rw [if_pos (Or.inl (ch_end.mp cw25))] at hQ; exact hQ I4 f4 P4) | (rw [if_pos (Or.inr ((ch_eq (by decide)).mp cw34))] at hQ; exact hQ I4 f4 P4))
        · refine E_aload_n dX7_several_28 rfl ?_
          refine E_callV (As := []) (ci := 6) (kc' := 0) (ks' := 0) (kc := 0) (ks := 0) dX7_several_29 ok_X7_next w_X7_51 i_X7_next s_X7_next rfl (by decide) rfl (Nat.lt_of_lt_of_le (by decide) hN) rfl rfl rfl (Nat.le_of_ble_eq_true rfl) (Nat.le_of_ble_eq_true rfl) (Nat.le_refl _) (x_next hN hR hc hL (hC.keep f4) (p := r.1) (by omega) P4.1 ?_)
          refine E_bp (nI 41) dX7_several_32 (by decide) ?_
          refine E_icmp_ne (tgt := 39) dX7_several_34 (by decide) (fun cw34 => ?_) (fun cw34 => ?_)
          · refine E_incN dX7_several_39 rfl ?_
            refine E_goto (tgt := 2) dX7_several_42 (by decide) ?_
            refine ih (more + 1) (by omega) I4 r.1 r.2.1 r.2.2 (hC.keep f4) a2 a4 a5 P4 ?_
            rw [if_neg (fun z => z.elim (fun z => cw25 (ch_end.mpr z)) (fun z => cw34 ((ch_eq (by decide)).mpr z)))] at hQ
            exact ROx.from f4 hQ
          · refine E_ic (nI 1) dX7_several_37 (by decide) ?_
            exact E_zret dX7_several_38 rfl (by decide) (by first | (rw [if_pos (Or.inl (ch_end.mp cw25))] at hQ; exact hQ I4 f4 P4) | (rw [if_pos (Or.inr ((ch_eq (by decide)).mp cw34))] at hQ; exact hQ I4 f4 P4))
  refine E_ic (nI 0) dX7_several_0 (by decide) ?_
  refine E_istore_n dX7_several_1 (Nat.le_of_ble_eq_true rfl) ?_
  exact key L 0 (Nat.zero_add L) I p s f hC hp hs hf hP hQ
set_option maxRecDepth 100000 in
set_option maxHeartbeats 2000000 in
theorem x_sg2 (hN : 152 ≤ n) (hR : RS R) (hc : okc t L c) (hL : L ≤ 260) (hC : CTx t L most il I R) (hsv : ∀ {Q2 : PQ} {I : IM} {p s : Nat} {f : FN}, CTx t L most il I R → p ≤ L → s ≤ most → (∀ i, i < s → f i < (if il = 1 then 1600 else 6)) → RPx p s f I → ROx I J R n Q2 (svS c (lvS il most L c 1) L p s f) → E g mX7_several (d + 9) 0 0 0 (ent 3 [.ref 20, .int (nI 1)]) [] n I J R Q2) (hil : il ≤ 1) (hm : most ≤ 96) (hp : p ≤ L) (hs : s ≤ most) (hf : ∀ i, i < s → f i < (if il = 1 then 1600 else 6)) (hP : RPx p s f I) (hQ : ROx I J R n Q (lvS il most L c 2 p s f)) : E g mX7_single (d + 10) 0 0 0 (ent 5 [.ref 20, .int (nI 0)]) [] n I J R Q := by
  obtain ⟨t1, t2, t3⟩ := tm_ok (il := il) hc hp
  refine E_aload_n dX7_single_0 rfl ?_
  refine E_getI dX7_single_1 f_X7_22 rfl (Nat.lt_of_lt_of_le (by decide) hN) rfl ?_
  refine E.top (hP.1) ?_
  refine E_istore_n dX7_single_4 (Nat.le_of_ble_eq_true rfl) ?_
  refine E_aload_n dX7_single_5 rfl ?_
  refine E_getI dX7_single_6 f_X7_25 rfl (Nat.lt_of_lt_of_le (by decide) hN) rfl ?_
  refine E.top (hP.2.1) ?_
  refine E_istore_n dX7_single_9 (Nat.le_of_ble_eq_true rfl) ?_
  refine E_aload_n dX7_single_10 rfl ?_
  refine E_callV (As := []) (ci := 6) (kc' := 0) (ks' := 0) (kc := 0) (ks := 0) dX7_single_11 ok_X7_times w_X7_62 i_X7_times s_X7_times rfl (by decide) rfl (Nat.lt_of_lt_of_le (by decide) hN) rfl rfl rfl (Nat.le_of_ble_eq_true rfl) (Nat.le_of_ble_eq_true rfl) (Nat.le_refl _) (x_times hN hR hc hL hC hil hp hP (fun I1 f1 P1 => ?_))
  refine E_istore dX7_single_14 (Nat.le_of_ble_eq_true rfl) ?_
  refine E_iload dX7_single_16 rfl ?_
  refine E_zN_ne (a := (tmS il c p).1) (tgt := 31) dX7_single_18 (by omega) (by decide) (fun cw18 => ?_) (fun cw18 => ?_)
  · have h0 : ¬ (tmS il c p).1 = 0 := by omega
    refine E_aload_n dX7_single_31 rfl ?_
    refine E_callV (As := []) (ci := 6) (kc' := 0) (ks' := 0) (kc := 0) (ks := 0) dX7_single_32 ok_X7_next w_X7_51 i_X7_next s_X7_next rfl (by decide) rfl (Nat.lt_of_lt_of_le (by decide) hN) rfl rfl rfl (Nat.le_of_ble_eq_true rfl) (Nat.le_of_ble_eq_true rfl) (Nat.le_refl _) (x_next hN hR hc hL (hC.keep f1) (p := (tmS il c p).2) (by omega) (P1.1) ?_)
    refine E_bp (nI 40) dX7_single_35 (by decide) ?_
    refine E_icmp_ne (tgt := 86) dX7_single_37 (by decide) (fun cw37 => (fun h40 : ¬ c (tmS il c p).2 = 40 => ?_) (fun z => cw37 ((ch_eq (by decide)).mpr z))) (fun cw37 => (fun h40 : c (tmS il c p).2 = 40 => ?_) ((ch_eq (by decide)).mp cw37))
    · refine E_aload_n dX7_single_86 rfl ?_
      refine E_callV (As := []) (ci := 6) (kc' := 0) (ks' := 0) (kc := 0) (ks := 0) dX7_single_87 ok_X7_plain w_X7_65 i_X7_plain s_X7_plain rfl (by decide) rfl (Nat.lt_of_lt_of_le (by decide) hN) rfl rfl rfl (Nat.le_of_ble_eq_true rfl) (Nat.le_of_ble_eq_true rfl) (Nat.le_refl _) (x_plain (d := d + 4) hN hR hc hL (hC.keep f1) hil t2 (by omega) P1 (fun q eq I2 f2 P2 => ?_) (fun r er I2 f2 P2 => ?_))
      · skip
        refine E_zN_ne (a := 0) (tgt := 103) dX7_single_90 (by decide) (by decide) (fun cw90 => absurd cw90 (by omega)) (fun cw90 => ?_)
        refine E_aload_n dX7_single_93 rfl ?_
        refine E_ic (nI 1) dX7_single_94 (by decide) ?_
        refine E_aload_n dX7_single_95 rfl ?_
        refine E_getI dX7_single_96 f_X7_22 rfl (Nat.lt_of_lt_of_le (by decide) hN) rfl ?_
        refine E.top (P2.1) ?_
        refine E_callV (As := [_, _]) (ci := 6) (kc' := 0) (ks' := 0) (kc := 0) (ks := 0) dX7_single_99 ok_X7_fails w_X7_55 i_X7_fails s_X7_fails rfl (by decide) rfl (Nat.lt_of_lt_of_le (by decide) hN) rfl rfl rfl (Nat.le_of_ble_eq_true rfl) (Nat.le_of_ble_eq_true rfl) (Nat.le_refl _) (x_failsR (k := 1) (q := q) hN ?_)
        exact E_zret dX7_single_102 rfl (by decide) (by rw [(show lvS il most L c 2 p s f = sgS il most c (svS c (lvS il most L c 1) L) 2 p s f from rfl)] at hQ; unfold sgS at hQ; rw [if_neg h0, if_neg h40, eq] at hQ; exact hQ _ ((f1.trans f2).trans (RFx.up _ _ (Or.inr (Or.inr rfl)))) (up2_s _ _ _ _))
      · have er2 := (pn_ok (il := il) hc t2).2 r er
        refine E_if_ne (tgt := 103) dX7_single_90 (by decide) (fun cw90 => ?_) (fun cw90 => absurd cw90 (by decide))
        refine x_fin (d := d + 8) (p2 := r.2) (s2 := s + 1) (f2 := up1 f s r.1) hN hR hC hm (f1.trans f2) P2 (Nat.lt_succ_self s) (by omega) (by omega) t3 ?_
        rw [(show lvS il most L c 2 p s f = sgS il most c (svS c (lvS il most L c 1) L) 2 p s f from rfl)] at hQ
        unfold sgS at hQ
        rw [if_neg h0, if_neg h40, er] at hQ
        exact hQ
    · refine E_iload_n dX7_single_40 rfl ?_
      refine E_ic (nI 2) dX7_single_41 (by decide) ?_
      refine E_cN_lt (a := 0) (b := 2) (tgt := 55) dX7_single_42 (by decide) (by decide) (by decide) (fun cw42 => ?_) (fun cw42 => absurd cw42 (by omega))
      have tl := hc.lt (p := (tmS il c p).2) (by omega)
      have hok := fun r => sv_ok (e := L) (p := (tmS il c p).2 + 1) (s := s) (f := f) (B := if il = 1 then 1600 else 6) (most := most) hc (by omega) hf (fun q2 s2 f2 h2 h3 r2 h4 => lv_ok hc 1 q2 s2 f2 h2 h3 r2 h4) r
      refine E_aload_n dX7_single_55 rfl ?_
      refine E_dup dX7_single_56 rfl ?_
      refine E_getI dX7_single_57 f_X7_22 rfl (Nat.lt_of_lt_of_le (by decide) hN) rfl ?_
      refine E.top (P1.1) ?_
      refine E_ic (nI 1) dX7_single_60 (by decide) ?_
      refine E_iadd dX7_single_61 ?_
      refine E.top (nI_add ((tmS il c p).2) 1) ?_
      refine E_putI dX7_single_62 f_X7_22 rfl (Nat.lt_of_lt_of_le (by decide) hN) rfl ?_
      refine E_aload_n dX7_single_65 rfl ?_
      refine E_iload_n dX7_single_66 rfl ?_
      refine E_ic (nI 1) dX7_single_67 (by decide) ?_
      refine E_iadd dX7_single_68 ?_
      refine E.top (nI_add 0 1) ?_
      refine E_callV (As := [_]) (ci := 6) (kc' := 0) (ks' := 0) (kc := 0) (ks := 0) dX7_single_69 ok_X7_several w_X7_44 i_X7_several s_X7_several rfl (by decide) rfl (Nat.lt_of_lt_of_le (by decide) hN) rfl rfl rfl (Nat.le_of_ble_eq_true rfl) (Nat.le_of_ble_eq_true rfl) (Nat.le_refl _) (hsv (p := (tmS il c p).2 + 1) (s := s) (f := f) ((hC.keep f1).keep (RFx.up _ _ (Or.inl rfl))) (by omega) hs hf P1.at ?_)
      have hQ2 := hQ
      rw [(show lvS il most L c 2 p s f = sgS il most c (svS c (lvS il most L c 1) L) 2 p s f from rfl)] at hQ
      unfold sgS at hQ
      rw [if_neg h0, if_pos h40, if_neg (by decide)] at hQ
      cases hsv2 : svS c (lvS il most L c 1) L ((tmS il c p).2 + 1) s f with
      | inl x =>
        have hQ : ROx I J R n Q (.inl x) := by rw [hsv2] at hQ; exact hQ
        intro I4 f4 e4
        refine E_zN_eq (a := 0) (tgt := 84) dX7_single_72 (by decide) (by decide) (fun cw72 => ?_) (fun cw72 => absurd cw72 (by omega))
        refine E_ic (nI 0) dX7_single_84 (by decide) ?_
        exact E_zret dX7_single_85 rfl (by decide) (hQ I4 (f1.trans ((RFx.up _ _ (Or.inl rfl)).trans f4)) e4)
      | inr r =>
        have hQ : ROx I J R n Q (if c r.1 = 41 then finS most (tmS il c p).1 p s (r.1 + 1) r.2.1 r.2.2 else .inl (flt 1 r.1)) := by rw [hsv2] at hQ; exact hQ
        obtain ⟨a1, a2, a3, a4, a5⟩ := hok r hsv2
        intro I4 f4 P4
        refine E_zN_eq (a := 1) (tgt := 84) dX7_single_72 (by decide) (by decide) (fun cw72 => absurd cw72 (by omega)) (fun cw72 => ?_)
        refine E_aload_n dX7_single_75 rfl ?_
        refine E_bp (nI 41) dX7_single_76 (by decide) ?_
        refine E_callV (As := [_]) (ci := 6) (kc' := 0) (ks' := 0) (kc := 0) (ks := 0) dX7_single_78 ok_X7_closes w_X7_48 i_X7_closes s_X7_closes rfl (by decide) rfl (Nat.lt_of_lt_of_le (by decide) hN) rfl rfl rfl (Nat.le_of_ble_eq_true rfl) (Nat.le_of_ble_eq_true rfl) (Nat.le_refl _) (x_closes (d := d + 8) (sg := nI 41) hN hR hc hL ((hC.keep f1).keep ((RFx.up _ _ (Or.inl rfl)).trans f4)) (p := r.1) (s := r.2.1) (f := r.2.2) (by omega) P4 (fun h41 => ?_) (fun h41 => ?_))
        · skip
          refine E_if_ne (tgt := 103) dX7_single_81 (by decide) (fun cw81 => ?_) (fun cw81 => absurd cw81 (by decide))
          refine x_fin (d := d + 8) (p2 := r.1 + 1) (s2 := r.2.1) (f2 := r.2.2) hN hR hC hm (f1.trans ((RFx.up _ _ (Or.inl rfl)).trans (f4.trans (RFx.up _ _ (Or.inl rfl))))) P4.at a3 (by omega) (by omega) t3 ?_
          rw [if_pos ((ch_eq (by decide)).mp h41)] at hQ
          exact hQ
        · skip
          refine E_zN_ne (a := 0) (tgt := 103) dX7_single_81 (by decide) (by decide) (fun cw81 => absurd cw81 (by omega)) (fun cw81 => ?_)
          refine E_ic (nI 0) dX7_single_84 (by decide) ?_
          exact E_zret dX7_single_85 rfl (by decide) (by rw [if_neg (fun z => h41 ((ch_eq (by decide)).mpr z))] at hQ; exact hQ _ (f1.trans ((RFx.up _ _ (Or.inl rfl)).trans (f4.trans (RFx.up _ _ (Or.inr (Or.inr rfl)))))) (up2_s _ _ _ _))
  · refine E_aload_n dX7_single_21 rfl ?_
    refine E_ic (nI 1) dX7_single_22 (by decide) ?_
    refine E_aload_n dX7_single_23 rfl ?_
    refine E_getI dX7_single_24 f_X7_22 rfl (Nat.lt_of_lt_of_le (by decide) hN) rfl ?_
    refine E.top (P1.1) ?_
    refine E_callV (As := [_, _]) (ci := 6) (kc' := 0) (ks' := 0) (kc := 0) (ks := 0) dX7_single_27 ok_X7_fails w_X7_55 i_X7_fails s_X7_fails rfl (by decide) rfl (Nat.lt_of_lt_of_le (by decide) hN) rfl rfl rfl (Nat.le_of_ble_eq_true rfl) (Nat.le_of_ble_eq_true rfl) (Nat.le_refl _) (x_failsR (k := 1) (q := (tmS il c p).2) hN ?_)
    exact E_zret dX7_single_30 rfl (by decide) (by rw [(show lvS il most L c 2 p s f = sgS il most c (svS c (lvS il most L c 1) L) 2 p s f from rfl)] at hQ; unfold sgS at hQ; rw [if_pos cw18] at hQ; exact hQ _ (f1.trans (RFx.up _ _ (Or.inr (Or.inr rfl)))) (up2_s _ _ _ _))
set_option maxRecDepth 100000 in
set_option maxHeartbeats 2000000 in
theorem x_sv2 (hN : 152 ≤ n) (hR : RS R) (hc : okc t L c) (hL : L ≤ 260) (hil : il ≤ 1) (hm : most ≤ 96) (hC : CTx t L most il I R) (hp : p ≤ L) (hs : s ≤ most) (hf : ∀ i, i < s → f i < (if il = 1 then 1600 else 6)) (hP : RPx p s f I) (hQ : ROx I J R n Q (svS c (lvS il most L c 2) L p s f)) : E g mX7_several (d + 11) 0 0 0 (ent 3 [.ref 20, .int (nI 0)]) [] n I J R Q := by
  have key : ∀ (e more : Nat), more + e = L → ∀ (I : IM) (p s : Nat) (f : FN), CTx t L most il I R → p ≤ L → s ≤ most → (∀ i, i < s → f i < (if il = 1 then 1600 else 6)) → RPx p s f I → ROx I J R n Q (svS c (lvS il most L c 2) e p s f) → E g mX7_several (d + 11) 0 0 2 [.ref 20, .int (nI 0), .int (nI more)] [] n I J R Q := by
    intro e
    induction e with
    | zero =>
      intro more hm2 I p s f hC hp hs hf hP hQ
      refine E_iload_n dX7_several_2 rfl ?_
      refine E_aload_n dX7_several_3 rfl ?_
      refine E_getI dX7_several_4 f_X7_18 rfl (Nat.lt_of_lt_of_le (by decide) hN) rfl ?_
      refine E.top (hC.1) ?_
      refine E_cN_ge (a := more) (b := L) (tgt := 45) dX7_several_7 (by omega) (by omega) (by decide) (fun cw7 => ?_) (fun cw7 => absurd cw7 (by omega))
      refine E_aload_n dX7_several_45 rfl ?_
      refine E_ic (nI 1) dX7_several_46 (by decide) ?_
      refine E_aload_n dX7_several_47 rfl ?_
      refine E_getI dX7_several_48 f_X7_22 rfl (Nat.lt_of_lt_of_le (by decide) hN) rfl ?_
      refine E.top (hP.1) ?_
      refine E_callV (As := [_, _]) (ci := 6) (kc' := 0) (ks' := 0) (kc := 0) (ks := 0) dX7_several_51 ok_X7_fails w_X7_55 i_X7_fails s_X7_fails rfl (by decide) rfl (Nat.lt_of_lt_of_le (by decide) hN) rfl rfl rfl (Nat.le_of_ble_eq_true rfl) (Nat.le_of_ble_eq_true rfl) (Nat.le_refl _) (x_failsR (k := 1) (q := p) hN ?_)
      exact E_zret dX7_several_54 rfl (by decide) (hQ _ (RFx.up _ _ (Or.inr (Or.inr rfl))) (up2_s _ _ _ _))
    | succ e ih =>
      intro more hm2 I p s f hC hp hs hf hP hQ
      refine E_iload_n dX7_several_2 rfl ?_
      refine E_aload_n dX7_several_3 rfl ?_
      refine E_getI dX7_several_4 f_X7_18 rfl (Nat.lt_of_lt_of_le (by decide) hN) rfl ?_
      refine E.top (hC.1) ?_
      refine E_cN_ge (a := more) (b := L) (tgt := 45) dX7_several_7 (by omega) (by omega) (by decide) (fun cw7 => absurd cw7 (by omega)) (fun cw7 => ?_)
      refine E_aload_n dX7_several_10 rfl ?_
      refine E_iload_n dX7_several_11 rfl ?_
      refine E_callV (As := [_]) (ci := 6) (kc' := 0) (ks' := 0) (kc := 0) (ks := 0) dX7_several_12 ok_X7_single w_X7_59 i_X7_single s_X7_single rfl (by decide) rfl (Nat.lt_of_lt_of_le (by decide) hN) rfl rfl rfl (Nat.le_of_ble_eq_true rfl) (Nat.le_of_ble_eq_true rfl) (Nat.le_refl _) (x_sg2 (d := d) hN hR hc hL hC (fun a1 a2 a3 a4 a5 a6 => x_sv1 (d := d) hN hR hc hL hil hm a1 a2 a3 a4 a5 a6) hil hm hp hs hf hP ?_)
      rw [show svS c (lvS il most L c 2) (e + 1) p s f = (match lvS il most L c 2 p s f with | .inl x => .inl x | .inr r => if 256 ≤ c r.1 ∨ c r.1 = 41 then .inr r else svS c (lvS il most L c 2) e r.1 r.2.1 r.2.2) from rfl] at hQ
      cases hl : lvS il most L c 2 p s f with
      | inl x =>
        have hQ : ROx I J R n Q (.inl x) := by rw [hl] at hQ; exact hQ
        intro I4 f4 e4
        refine E_zN_ne (a := 0) (tgt := 20) dX7_several_15 (by decide) (by decide) (fun cw15 => absurd cw15 (by omega)) (fun cw15 => ?_)
        refine E_ic (nI 0) dX7_several_18 (by decide) ?_
        exact E_zret dX7_several_19 rfl (by decide) (hQ I4 f4 e4)
      | inr r =>
        have hQ : ROx I J R n Q (if 256 ≤ c r.1 ∨ c r.1 = 41 then .inr r else svS c (lvS il most L c 2) e r.1 r.2.1 r.2.2) := by rw [hl] at hQ; exact hQ
        obtain ⟨a1, a2, a3, a4, a5⟩ := lv_ok hc 2 p s f hp hf r hl
        intro I4 f4 P4
        refine E_zN_ne (a := 1) (tgt := 20) dX7_several_15 (by decide) (by decide) (fun cw15 => ?_) (fun cw15 => absurd cw15 (by omega))
        refine E_aload_n dX7_several_20 rfl ?_
        refine E_callV (As := []) (ci := 6) (kc' := 0) (ks' := 0) (kc := 0) (ks := 0) dX7_several_21 ok_X7_next w_X7_51 i_X7_next s_X7_next rfl (by decide) rfl (Nat.lt_of_lt_of_le (by decide) hN) rfl rfl rfl (Nat.le_of_ble_eq_true rfl) (Nat.le_of_ble_eq_true rfl) (Nat.le_refl _) (x_next hN hR hc hL (hC.keep f4) (p := r.1) (by omega) P4.1 ?_)
        refine E_ic (-1) dX7_several_24 (by decide) ?_
        refine E_icmp_eq (tgt := 37) dX7_several_25 (by decide) (fun cw25 => ?_) (fun cw25 => ?_)
        · refine E_ic (nI 1) dX7_several_37 (by decide) ?_
          exact E_zret dX7_several_38 rfl (by decide) (by first | (rw [if_pos (Or.inl (ch_end.mp cw25))] at hQ; exact hQ I4 f4 P4) | (rw [if_pos (Or.inr ((ch_eq (by decide)).mp cw34))] at hQ; exact hQ I4 f4 P4))
        · refine E_aload_n dX7_several_28 rfl ?_
          refine E_callV (As := []) (ci := 6) (kc' := 0) (ks' := 0) (kc := 0) (ks := 0) dX7_several_29 ok_X7_next w_X7_51 i_X7_next s_X7_next rfl (by decide) rfl (Nat.lt_of_lt_of_le (by decide) hN) rfl rfl rfl (Nat.le_of_ble_eq_true rfl) (Nat.le_of_ble_eq_true rfl) (Nat.le_refl _) (x_next hN hR hc hL (hC.keep f4) (p := r.1) (by omega) P4.1 ?_)
          refine E_bp (nI 41) dX7_several_32 (by decide) ?_
          refine E_icmp_ne (tgt := 39) dX7_several_34 (by decide) (fun cw34 => ?_) (fun cw34 => ?_)
          · refine E_incN dX7_several_39 rfl ?_
            refine E_goto (tgt := 2) dX7_several_42 (by decide) ?_
            refine ih (more + 1) (by omega) I4 r.1 r.2.1 r.2.2 (hC.keep f4) a2 a4 a5 P4 ?_
            rw [if_neg (fun z => z.elim (fun z => cw25 (ch_end.mpr z)) (fun z => cw34 ((ch_eq (by decide)).mpr z)))] at hQ
            exact ROx.from f4 hQ
          · refine E_ic (nI 1) dX7_several_37 (by decide) ?_
            exact E_zret dX7_several_38 rfl (by decide) (by first | (rw [if_pos (Or.inl (ch_end.mp cw25))] at hQ; exact hQ I4 f4 P4) | (rw [if_pos (Or.inr ((ch_eq (by decide)).mp cw34))] at hQ; exact hQ I4 f4 P4))
  refine E_ic (nI 0) dX7_several_0 (by decide) ?_
  refine E_istore_n dX7_several_1 (Nat.le_of_ble_eq_true rfl) ?_
  exact key L 0 (Nat.zero_add L) I p s f hC hp hs hf hP hQ
theorem RS.up {R : RM} {a k : Nat} {v : Option Nat} (h : RS R) (hn : RT a k = none) : RS (up2 R a k v) := by
  intro x y b hb
  by_cases e : x = a ∧ y = k
  · rw [e.1, e.2, hn] at hb
    cases hb
  · rw [show up2 R a k v x y = R x y from if_neg e]
    exact h x y b hb
set_option maxRecDepth 100000 in
set_option maxHeartbeats 2000000 in
theorem x_read1 (hN : 152 ≤ n) (hR : RS R) (hc : okc t L c) (hL : L ≤ 260) (hT : ∀ j, j < L → I 2 j = nI (t j)) (hQ : match rdS 1 24 L c with | .inl x => ∀ I2 : IM, RFx (up2 (up2 (up2 (up2 (up2 (up2 I 20 2 (nI L)) 20 3 (nI 0)) 20 4 (nI 0)) 20 6 (nI 0)) 20 7 (nI 1)) 20 5 (nI 24)) I2 → Q (some (.int x)) n I2 J (up2 R 20 1 (some 2)) | .inr r => ∀ I2 : IM, RFx (up2 (up2 (up2 (up2 (up2 (up2 I 20 2 (nI L)) 20 3 (nI 0)) 20 4 (nI 0)) 20 6 (nI 0)) 20 7 (nI 1)) 20 5 (nI 24)) I2 → (∀ i, i < r.2.1 → i < 96 → I2 21 i = nI (r.2.2 i)) → Q (some (.int (nI r.2.1))) n I2 J (up2 R 20 1 (some 2))) : E g mX7_read (d + 12) 0 0 0 (ent 4 [.ref 20, .ref 2, .int (nI L), .int (nI 1)]) [] n I J R Q := by
  refine E_aload_n dX7_read_0 rfl ?_
  refine E_aload_n dX7_read_1 rfl ?_
  refine E_putR dX7_read_2 f_X7_15 rfl (Nat.lt_of_lt_of_le (by decide) hN) rfl (Or.inr ⟨_, rfl⟩) ?_
  refine E_aload_n dX7_read_5 rfl ?_
  refine E_iload_n dX7_read_6 rfl ?_
  refine E_aload_n dX7_read_7 rfl ?_
  refine E_alen dX7_read_8 rfl (Nat.lt_of_lt_of_le (by decide) hN) (by decide) (by decide) ?_
  refine E.top (show _ = nI 260 from rfl) ?_
  refine E_mmin dX7_read_9 w_X7_38 (Nat.le_of_ble_eq_true rfl) (by omega) ?_
  refine E.top (nI_min L 260 (by omega) (by omega)) ?_
  refine E.top (congrArg nI (show min L 260 = L by omega)) ?_
  refine E_putI dX7_read_12 f_X7_18 rfl (Nat.lt_of_lt_of_le (by decide) hN) rfl ?_
  refine E_aload_n dX7_read_15 rfl ?_
  refine E_ic (nI 0) dX7_read_16 (by decide) ?_
  refine E_putI dX7_read_17 f_X7_22 rfl (Nat.lt_of_lt_of_le (by decide) hN) rfl ?_
  refine E_aload_n dX7_read_20 rfl ?_
  refine E_ic (nI 0) dX7_read_21 (by decide) ?_
  refine E_putI dX7_read_22 f_X7_25 rfl (Nat.lt_of_lt_of_le (by decide) hN) rfl ?_
  refine E_aload_n dX7_read_25 rfl ?_
  refine E_ic (nI 0) dX7_read_26 (by decide) ?_
  refine E_putI dX7_read_27 f_X7_31 rfl (Nat.lt_of_lt_of_le (by decide) hN) rfl ?_
  refine E_aload_n dX7_read_30 rfl ?_
  refine E_iload_n dX7_read_31 rfl ?_
  refine E_putZ dX7_read_32 f_X7_34 rfl (Nat.lt_of_lt_of_le (by decide) hN) rfl (by decide) ?_
  refine E_aload_n dX7_read_35 rfl ?_
  refine E_iload_n dX7_read_36 rfl ?_
  refine E_zN_eq (a := 1) (tgt := 45) dX7_read_37 (by decide) (by decide) (fun cw37 => absurd cw37 (by omega)) (fun cw37 => ?_)
  refine E_bp (nI 24) dX7_read_40 (by decide) ?_
  refine E_goto (tgt := 47) dX7_read_42 (by decide) ?_
  refine E_putI dX7_read_47 f_X7_28 rfl (Nat.lt_of_lt_of_le (by decide) hN) rfl ?_
  have hR1 : RS (up2 R 20 1 (some 2)) := RS.up hR rfl
  have hC : CTx t L 24 1 (up2 (up2 (up2 (up2 (up2 (up2 I 20 2 (nI L)) 20 3 (nI 0)) 20 4 (nI 0)) 20 6 (nI 0)) 20 7 (nI 1)) 20 5 (nI 24)) (up2 R 20 1 (some 2)) := ⟨rfl, rfl, rfl, fun j hj => hT j hj, up2_s _ _ _ _⟩
  have hf0 : ∀ i, i < 0 → (fun _ => 0 : FN) i < (if 1 = 1 then 1600 else 6) := fun i hi => absurd hi (Nat.not_lt_zero i)
  refine E_aload_n dX7_read_50 rfl ?_
  refine E_ic (nI 0) dX7_read_51 (by decide) ?_
  refine E_callV (As := [_]) (ci := 6) (kc' := 0) (ks' := 0) (kc := 0) (ks := 0) dX7_read_52 ok_X7_several w_X7_44 i_X7_several s_X7_several rfl (by decide) rfl (Nat.lt_of_lt_of_le (by decide) hN) rfl rfl rfl (Nat.le_of_ble_eq_true rfl) (Nat.le_of_ble_eq_true rfl) (Nat.le_refl _) (x_sv2 (d := d) (f := fun _ => 0) hN hR1 hc hL (by decide) (by decide) hC (Nat.zero_le _) (Nat.zero_le _) hf0 ⟨rfl, rfl, fun i hi => absurd hi (Nat.not_lt_zero i)⟩ ?_)
  cases hsv : svS c (lvS 1 24 L c 2) L 0 0 (fun _ => 0) with
  | inl x =>
    intro I4 f4 e4
    refine E_zN_eq (a := 0) (tgt := 73) dX7_read_55 (by decide) (by decide) (fun cw55 => ?_) (fun cw55 => absurd cw55 (by omega))
    refine E_aload_n dX7_read_73 rfl ?_
    refine E_getI dX7_read_74 f_X7_31 rfl (Nat.lt_of_lt_of_le (by decide) hN) rfl ?_
    refine E.top (e4) ?_
    exact E_iret dX7_read_77 rfl (by rw [show rdS 1 24 L c = .inl x by unfold rdS; rw [hsv]] at hQ; exact hQ I4 f4)
  | inr r =>
    obtain ⟨a1, a2, a3, a4, a5⟩ := sv_ok hc (Nat.zero_le _) hf0 (fun q2 s2 f2 h2 h3 r2 h4 => lv_ok hc 2 q2 s2 f2 h2 h3 r2 h4) r hsv
    intro I4 f4 P4
    refine E_zN_eq (a := 1) (tgt := 73) dX7_read_55 (by decide) (by decide) (fun cw55 => absurd cw55 (by omega)) (fun cw55 => ?_)
    refine E_aload_n dX7_read_58 rfl ?_
    refine E_ic (-1) dX7_read_59 (by decide) ?_
    refine E_callV (As := [_]) (ci := 6) (kc' := 0) (ks' := 0) (kc := 0) (ks := 0) dX7_read_60 ok_X7_closes w_X7_48 i_X7_closes s_X7_closes rfl (by decide) rfl (Nat.lt_of_lt_of_le (by decide) hN) rfl rfl rfl (Nat.le_of_ble_eq_true rfl) (Nat.le_of_ble_eq_true rfl) (Nat.le_refl _) (x_closes (d := d + 10) (sg := -1) hN hR1 hc hL (hC.keep f4) (p := r.1) (s := r.2.1) (f := r.2.2) (by omega) P4 (fun h41 => ?_) (fun h41 => ?_))
    · skip
      refine E_zN_eq (a := 1) (tgt := 73) dX7_read_63 (by decide) (by decide) (fun cw63 => absurd cw63 (by omega)) (fun cw63 => ?_)
      refine E_aload_n dX7_read_66 rfl ?_
      refine E_getI dX7_read_67 f_X7_25 rfl (Nat.lt_of_lt_of_le (by decide) hN) rfl ?_
      refine E.top ((up2_k _ _ (by decide)).trans P4.2.1) ?_
      refine E_goto (tgt := 77) dX7_read_70 (by decide) ?_
      exact E_iret dX7_read_77 rfl (by first | (rw [show rdS 1 24 L c = .inr r by unfold rdS; rw [hsv]; exact if_pos (ch_end.mp h41)] at hQ; exact hQ _ (f4.trans (RFx.up _ _ (Or.inl rfl))) (fun i h1 h2 => (congrFun (up2_o I4 20 3 _ 21 (by decide)) i).trans (P4.2.2 i h1 h2))) | (rw [show rdS 1 24 L c = .inl (flt 1 r.1) by unfold rdS; rw [hsv]; exact if_neg (fun z => h41 (ch_end.mpr z))] at hQ; exact hQ _ (f4.trans (RFx.up _ _ (Or.inr (Or.inr rfl))))))
    · skip
      refine E_zN_eq (a := 0) (tgt := 73) dX7_read_63 (by decide) (by decide) (fun cw63 => ?_) (fun cw63 => absurd cw63 (by omega))
      refine E_aload_n dX7_read_73 rfl ?_
      refine E_getI dX7_read_74 f_X7_31 rfl (Nat.lt_of_lt_of_le (by decide) hN) rfl ?_
      refine E.top (up2_s _ _ _ _) ?_
      exact E_iret dX7_read_77 rfl (by first | (rw [show rdS 1 24 L c = .inr r by unfold rdS; rw [hsv]; exact if_pos (ch_end.mp h41)] at hQ; exact hQ _ (f4.trans (RFx.up _ _ (Or.inl rfl))) (fun i h1 h2 => (congrFun (up2_o I4 20 3 _ 21 (by decide)) i).trans (P4.2.2 i h1 h2))) | (rw [show rdS 1 24 L c = .inl (flt 1 r.1) by unfold rdS; rw [hsv]; exact if_neg (fun z => h41 (ch_end.mpr z))] at hQ; exact hQ _ (f4.trans (RFx.up _ _ (Or.inr (Or.inr rfl))))))
set_option maxRecDepth 100000 in
set_option maxHeartbeats 2000000 in
theorem x_read0 (hN : 152 ≤ n) (hR : RS R) (hc : okc t L c) (hL : L ≤ 260) (hT : ∀ j, j < L → I 2 j = nI (t j)) (hQ : match rdS 0 96 L c with | .inl x => ∀ I2 : IM, RFx (up2 (up2 (up2 (up2 (up2 (up2 I 20 2 (nI L)) 20 3 (nI 0)) 20 4 (nI 0)) 20 6 (nI 0)) 20 7 (nI 0)) 20 5 (nI 96)) I2 → Q (some (.int x)) n I2 J (up2 R 20 1 (some 2)) | .inr r => ∀ I2 : IM, RFx (up2 (up2 (up2 (up2 (up2 (up2 I 20 2 (nI L)) 20 3 (nI 0)) 20 4 (nI 0)) 20 6 (nI 0)) 20 7 (nI 0)) 20 5 (nI 96)) I2 → (∀ i, i < r.2.1 → i < 96 → I2 21 i = nI (r.2.2 i)) → Q (some (.int (nI r.2.1))) n I2 J (up2 R 20 1 (some 2))) : E g mX7_read (d + 12) 0 0 0 (ent 4 [.ref 20, .ref 2, .int (nI L), .int (nI 0)]) [] n I J R Q := by
  refine E_aload_n dX7_read_0 rfl ?_
  refine E_aload_n dX7_read_1 rfl ?_
  refine E_putR dX7_read_2 f_X7_15 rfl (Nat.lt_of_lt_of_le (by decide) hN) rfl (Or.inr ⟨_, rfl⟩) ?_
  refine E_aload_n dX7_read_5 rfl ?_
  refine E_iload_n dX7_read_6 rfl ?_
  refine E_aload_n dX7_read_7 rfl ?_
  refine E_alen dX7_read_8 rfl (Nat.lt_of_lt_of_le (by decide) hN) (by decide) (by decide) ?_
  refine E.top (show _ = nI 260 from rfl) ?_
  refine E_mmin dX7_read_9 w_X7_38 (Nat.le_of_ble_eq_true rfl) (by omega) ?_
  refine E.top (nI_min L 260 (by omega) (by omega)) ?_
  refine E.top (congrArg nI (show min L 260 = L by omega)) ?_
  refine E_putI dX7_read_12 f_X7_18 rfl (Nat.lt_of_lt_of_le (by decide) hN) rfl ?_
  refine E_aload_n dX7_read_15 rfl ?_
  refine E_ic (nI 0) dX7_read_16 (by decide) ?_
  refine E_putI dX7_read_17 f_X7_22 rfl (Nat.lt_of_lt_of_le (by decide) hN) rfl ?_
  refine E_aload_n dX7_read_20 rfl ?_
  refine E_ic (nI 0) dX7_read_21 (by decide) ?_
  refine E_putI dX7_read_22 f_X7_25 rfl (Nat.lt_of_lt_of_le (by decide) hN) rfl ?_
  refine E_aload_n dX7_read_25 rfl ?_
  refine E_ic (nI 0) dX7_read_26 (by decide) ?_
  refine E_putI dX7_read_27 f_X7_31 rfl (Nat.lt_of_lt_of_le (by decide) hN) rfl ?_
  refine E_aload_n dX7_read_30 rfl ?_
  refine E_iload_n dX7_read_31 rfl ?_
  refine E_putZ dX7_read_32 f_X7_34 rfl (Nat.lt_of_lt_of_le (by decide) hN) rfl (by decide) ?_
  refine E_aload_n dX7_read_35 rfl ?_
  refine E_iload_n dX7_read_36 rfl ?_
  refine E_zN_eq (a := 0) (tgt := 45) dX7_read_37 (by decide) (by decide) (fun cw37 => ?_) (fun cw37 => absurd cw37 (by omega))
  refine E_bp (nI 96) dX7_read_45 (by decide) ?_
  refine E_putI dX7_read_47 f_X7_28 rfl (Nat.lt_of_lt_of_le (by decide) hN) rfl ?_
  have hR1 : RS (up2 R 20 1 (some 2)) := RS.up hR rfl
  have hC : CTx t L 96 0 (up2 (up2 (up2 (up2 (up2 (up2 I 20 2 (nI L)) 20 3 (nI 0)) 20 4 (nI 0)) 20 6 (nI 0)) 20 7 (nI 0)) 20 5 (nI 96)) (up2 R 20 1 (some 2)) := ⟨rfl, rfl, rfl, fun j hj => hT j hj, up2_s _ _ _ _⟩
  have hf0 : ∀ i, i < 0 → (fun _ => 0 : FN) i < (if 0 = 1 then 1600 else 6) := fun i hi => absurd hi (Nat.not_lt_zero i)
  refine E_aload_n dX7_read_50 rfl ?_
  refine E_ic (nI 0) dX7_read_51 (by decide) ?_
  refine E_callV (As := [_]) (ci := 6) (kc' := 0) (ks' := 0) (kc := 0) (ks := 0) dX7_read_52 ok_X7_several w_X7_44 i_X7_several s_X7_several rfl (by decide) rfl (Nat.lt_of_lt_of_le (by decide) hN) rfl rfl rfl (Nat.le_of_ble_eq_true rfl) (Nat.le_of_ble_eq_true rfl) (Nat.le_refl _) (x_sv2 (d := d) (f := fun _ => 0) hN hR1 hc hL (by decide) (by decide) hC (Nat.zero_le _) (Nat.zero_le _) hf0 ⟨rfl, rfl, fun i hi => absurd hi (Nat.not_lt_zero i)⟩ ?_)
  cases hsv : svS c (lvS 0 96 L c 2) L 0 0 (fun _ => 0) with
  | inl x =>
    intro I4 f4 e4
    refine E_zN_eq (a := 0) (tgt := 73) dX7_read_55 (by decide) (by decide) (fun cw55 => ?_) (fun cw55 => absurd cw55 (by omega))
    refine E_aload_n dX7_read_73 rfl ?_
    refine E_getI dX7_read_74 f_X7_31 rfl (Nat.lt_of_lt_of_le (by decide) hN) rfl ?_
    refine E.top (e4) ?_
    exact E_iret dX7_read_77 rfl (by rw [show rdS 0 96 L c = .inl x by unfold rdS; rw [hsv]] at hQ; exact hQ I4 f4)
  | inr r =>
    obtain ⟨a1, a2, a3, a4, a5⟩ := sv_ok hc (Nat.zero_le _) hf0 (fun q2 s2 f2 h2 h3 r2 h4 => lv_ok hc 2 q2 s2 f2 h2 h3 r2 h4) r hsv
    intro I4 f4 P4
    refine E_zN_eq (a := 1) (tgt := 73) dX7_read_55 (by decide) (by decide) (fun cw55 => absurd cw55 (by omega)) (fun cw55 => ?_)
    refine E_aload_n dX7_read_58 rfl ?_
    refine E_ic (-1) dX7_read_59 (by decide) ?_
    refine E_callV (As := [_]) (ci := 6) (kc' := 0) (ks' := 0) (kc := 0) (ks := 0) dX7_read_60 ok_X7_closes w_X7_48 i_X7_closes s_X7_closes rfl (by decide) rfl (Nat.lt_of_lt_of_le (by decide) hN) rfl rfl rfl (Nat.le_of_ble_eq_true rfl) (Nat.le_of_ble_eq_true rfl) (Nat.le_refl _) (x_closes (d := d + 10) (sg := -1) hN hR1 hc hL (hC.keep f4) (p := r.1) (s := r.2.1) (f := r.2.2) (by omega) P4 (fun h41 => ?_) (fun h41 => ?_))
    · skip
      refine E_zN_eq (a := 1) (tgt := 73) dX7_read_63 (by decide) (by decide) (fun cw63 => absurd cw63 (by omega)) (fun cw63 => ?_)
      refine E_aload_n dX7_read_66 rfl ?_
      refine E_getI dX7_read_67 f_X7_25 rfl (Nat.lt_of_lt_of_le (by decide) hN) rfl ?_
      refine E.top ((up2_k _ _ (by decide)).trans P4.2.1) ?_
      refine E_goto (tgt := 77) dX7_read_70 (by decide) ?_
      exact E_iret dX7_read_77 rfl (by first | (rw [show rdS 0 96 L c = .inr r by unfold rdS; rw [hsv]; exact if_pos (ch_end.mp h41)] at hQ; exact hQ _ (f4.trans (RFx.up _ _ (Or.inl rfl))) (fun i h1 h2 => (congrFun (up2_o I4 20 3 _ 21 (by decide)) i).trans (P4.2.2 i h1 h2))) | (rw [show rdS 0 96 L c = .inl (flt 1 r.1) by unfold rdS; rw [hsv]; exact if_neg (fun z => h41 (ch_end.mpr z))] at hQ; exact hQ _ (f4.trans (RFx.up _ _ (Or.inr (Or.inr rfl))))))
    · skip
      refine E_zN_eq (a := 0) (tgt := 73) dX7_read_63 (by decide) (by decide) (fun cw63 => ?_) (fun cw63 => absurd cw63 (by omega))
      refine E_aload_n dX7_read_73 rfl ?_
      refine E_getI dX7_read_74 f_X7_31 rfl (Nat.lt_of_lt_of_le (by decide) hN) rfl ?_
      refine E.top (up2_s _ _ _ _) ?_
      exact E_iret dX7_read_77 rfl (by first | (rw [show rdS 0 96 L c = .inr r by unfold rdS; rw [hsv]; exact if_pos (ch_end.mp h41)] at hQ; exact hQ _ (f4.trans (RFx.up _ _ (Or.inl rfl))) (fun i h1 h2 => (congrFun (up2_o I4 20 3 _ 21 (by decide)) i).trans (P4.2.2 i h1 h2))) | (rw [show rdS 0 96 L c = .inl (flt 1 r.1) by unfold rdS; rw [hsv]; exact if_neg (fun z => h41 (ch_end.mpr z))] at hQ; exact hQ _ (f4.trans (RFx.up _ _ (Or.inr (Or.inr rfl))))))
end PRoundsX2
