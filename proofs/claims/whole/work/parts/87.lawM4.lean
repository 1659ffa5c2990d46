/-! ===== the law's sums, as the reference reads them: readsSum ===== -/
section PLawM4
variable {g : GL} {d n : Nat} {I : IM} {J : JM} {R : RM} {Q : PQ} {t c : Nat → Nat} {L k : Nat} {B : WK} {q : TS}
set_option maxRecDepth 100000 in
set_option maxHeartbeats 2000000 in
theorem m_readsSum (hd : 4 ≤ d) (hN : 152 ≤ n) (hR : RS R) (hc : okc t L c) (hL : L ≤ 240) (hk : k ≤ 6) (hB : stB B) (hvB : okV B) (hq : q.1 ≤ L) (hs : q.2.1 ≤ q.1) (hb : B.length ≤ q.1) (hC : CLm t L I) (hP : PLm k B q I) (hQ : OSm k B I J R n Q (smL c k q)) : E g mX12_readsSum d 0 0 0 (ent 3 [.ref 114]) [] n I J R Q := by
  have H : HDC c L B.length (fun (x : Int32) => ∀ I' : IM, FLm I I' → I' 114 10 = x → Q (some (.int 0)) n I' J R) (fun (r : TS) => ∀ I' : IM, FLm I I' → PLm k B r I' → Q (some (.int 1)) n I' J R) (fun (k2 : Nat) (st : WK) (q2 : TS) => k2 + n14 st = k → ∀ I2 : IM, FLm I I2 → PLm k2 (st ++ B) q2 I2 → E g mX12_readsSum d 0 0 14 [.ref 114, .int (nI (B.length)), jk] [] n I2 J R Q) := by
    refine ⟨?_, ?_, ?_, ?_⟩
    · intro k2 st q2 hb2 ho c1 hof e2 I2 f2 p2
      obtain ⟨b1, b2, b3⟩ := hb2
      have hl : (st ++ B).length < 260 := by rw [List.length_append]; omega
      have hv := okV_app ho hvB
      obtain ⟨s1, s2, s3⟩ := sg_lt c1
      have hp := hc.lt s1
      by_cases c2 : sgL (c q2.1) ≤ 3
      · skip
        rw [decide_eq_true c2] at hof
        obtain ⟨i1, i2, i3, i4⟩ := cs_inv (al := true) st q2.2 ho
        have hl3 : ((csR true st q2.2).1 ++ B).length < 260 := by rw [List.length_append]; omega
        refine E_aload_n dX12_readsSum_14 rfl ?_
        refine E_callV (As := []) (ci := 11) (kc' := 0) (ks' := 0) (kc := 0) (ks := 0) dX12_readsSum_15 ok_X12_here w_X12_142 i_X12_here s_X12_here rfl (by decide) rfl (Nat.lt_of_lt_of_le (by decide) hN) rfl rfl rfl (Nat.le_of_ble_eq_true rfl) (Nat.le_of_ble_eq_true rfl) (by omega) (m_here (d := 0) hN hR hc (Nat.le_trans hL (by decide)) (hC.keep f2).1 (hC.keep f2).2 (p := q2.1) (by omega) p2.1 ?_)
        refine E_callS (As := [_]) (kc' := 0) (ks' := 0) (kc := 0) (ks := 0) dX12_readsSum_18 ok_X12_sumSign w_X12_191 st_X12_sumSign rfl rfl rfl (Nat.le_of_ble_eq_true rfl) (Nat.le_of_ble_eq_true rfl) (by omega) (m_sumSign (d := 0) (x := c q2.1) ?_)
        refine E.top (if_neg c1) ?_
        refine E_istore_n dX12_readsSum_21 (Nat.le_of_ble_eq_true rfl) ?_
        refine E_iload_n dX12_readsSum_22 rfl ?_
        refine E_ic (-1) dX12_readsSum_23 (by decide) ?_
        refine E_icmp_eq (tgt := 83) dX12_readsSum_24 (by decide) (fun cw24 => by first | exact absurd cw24 (nI_m1 (by omega)) | exact absurd (nI_m1 (by omega)) cw24) (fun cw24 => ?_)
        refine E_aload_n dX12_readsSum_27 rfl ?_
        refine E_iload_n dX12_readsSum_28 rfl ?_
        refine E_ic (nI 4) dX12_readsSum_29 (by decide) ?_
        refine E_cN_ge (a := sgL (c q2.1)) (b := 4) (tgt := 37) dX12_readsSum_30 (by omega) (by decide) (by decide) (fun cw30 => absurd cw30 (by omega)) (fun cw30 => ?_)
        refine E_ic (nI 1) dX12_readsSum_33 (by decide) ?_
        refine E_goto (tgt := 38) dX12_readsSum_34 (by decide) ?_
        refine E_callV (As := [_]) (ci := 11) (kc' := 0) (ks' := 0) (kc := 0) (ks := 0) dX12_readsSum_38 ok_X12_closesSums w_X12_194 i_X12_closesSums s_X12_closesSums rfl (by decide) rfl (Nat.lt_of_lt_of_le (by decide) hN) rfl rfl rfl (Nat.le_of_ble_eq_true rfl) (Nat.le_of_ble_eq_true rfl) (by omega) (m_closes1 (d := 1) (k := k2) (by decide) hN hR hB st q2 I2 (by omega) hl hv p2 (fun I3 f3 p3 => ?_))
        refine E_aload_n dX12_readsSum_41 rfl ?_
        refine E_getR dX12_readsSum_42 f_X12_35 rfl (Nat.lt_of_lt_of_le (by decide) hN) rfl (hR _ _ _ rfl) ?_
        refine E_aload_n dX12_readsSum_45 rfl ?_
        refine E_getI dX12_readsSum_46 f_X12_167 rfl (Nat.lt_of_lt_of_le (by decide) hN) rfl ?_
        refine E.top (p3.2.2.2.2.1) ?_
        refine E_ldc (nI 1048576) dX12_readsSum_49 k_X12_163 ?_
        refine E_iload_n dX12_readsSum_51 rfl ?_
        refine E_imul dX12_readsSum_52 ?_
        refine E.top (pk_mul 1048576 (sgL (c q2.1))) ?_
        refine E_iastN dX12_readsSum_53 rfl (Nat.lt_of_lt_of_le (by decide) hN) (by omega) ?_
        refine E_aload_n dX12_readsSum_54 rfl ?_
        refine E_aload_n dX12_readsSum_55 rfl ?_
        refine E_getI dX12_readsSum_56 f_X12_167 rfl (Nat.lt_of_lt_of_le (by decide) hN) rfl ?_
        refine E.top ((congrFun (up2_o _ 123 _ _ 114 (by decide)) 14).trans p3.2.2.2.2.1) ?_
        refine E_ic (nI 1) dX12_readsSum_59 (by decide) ?_
        refine E_iadd dX12_readsSum_60 ?_
        refine E.top (nI_add (((csR true st q2.2).1 ++ B).length) 1) ?_
        refine E_putI dX12_readsSum_61 f_X12_167 rfl (Nat.lt_of_lt_of_le (by decide) hN) rfl ?_
        refine E_aload_n dX12_readsSum_64 rfl ?_
        refine E_aload_n dX12_readsSum_65 rfl ?_
        refine E_getI dX12_readsSum_66 f_X12_136 rfl (Nat.lt_of_lt_of_le (by decide) hN) rfl ?_
        refine E.top ((p3.push (sgL (c q2.1), 0)).1) ?_
        refine E_ic (nI 1) dX12_readsSum_69 (by decide) ?_
        refine E_iadd dX12_readsSum_70 ?_
        refine E.top (nI_add (q2.1) 1) ?_
        refine E_putI dX12_readsSum_71 f_X12_136 rfl (Nat.lt_of_lt_of_le (by decide) hN) rfl ?_
        refine E_aload_n dX12_readsSum_74 rfl ?_
        refine E_callV (As := []) (ci := 11) (kc' := 0) (ks' := 0) (kc := 0) (ks := 0) dX12_readsSum_75 ok_X12_readsFactor w_X12_188 i_X12_readsFactor s_X12_readsFactor rfl (by decide) rfl (Nat.lt_of_lt_of_le (by decide) hN) rfl rfl rfl (Nat.le_of_ble_eq_true rfl) (Nat.le_of_ble_eq_true rfl) (by omega) (m_readsFactor (d := 3) (B := B) (by decide) hN hR hc hL k2 ((sgL (c q2.1), 0) :: (csR true st q2.2).1) (q2.1 + 1, (csR true st q2.2).2) _ (by omega) ⟨hp, by show (csR true st q2.2).2.1 + ((csR true st q2.2).1.length + 1) ≤ q2.1 + 1; omega, by show (csR true st q2.2).1.length + 1 + B.length ≤ q2.1 + 1; omega⟩ (hC.keep (((f2.trans f3).trans ((FLm.row I3 _ _ (by decide)).trans (FLm.up _ _ (by decide)))).trans (FLm.up _ _ (by decide)))) ((p3.push (sgL (c q2.1), 0)).at (q2.1 + 1)) ?_)
        cases hfc : fcR c k2 ((sgL (c q2.1), 0) :: (csR true st q2.2).1) (q2.1 + 1, (csR true st q2.2).2) with
        | inl x =>
          intro I4 f4 e4
          refine E_zN_ne (a := 0) (tgt := 163) dX12_readsSum_78 (by decide) (by decide) (fun cw78 => absurd cw78 (by omega)) (fun cw78 => ?_)
          refine E_ic (nI 0) dX12_readsSum_81 (by decide) ?_
          exact E_zret dX12_readsSum_82 rfl (by decide) ((show (fun (x : Int32) => ∀ I' : IM, FLm I I' → I' 114 10 = x → Q (some (.int 0)) n I' J R) x by rw [hfc] at hof; exact hof) I4 ((((f2.trans f3).trans ((FLm.row I3 _ _ (by decide)).trans (FLm.up _ _ (by decide)))).trans (FLm.up _ _ (by decide))).trans f4) e4)
        | inr r =>
          intro I4 f4 p4
          refine E_zN_ne (a := 1) (tgt := 163) dX12_readsSum_78 (by decide) (by decide) (fun cw78 => ?_) (fun cw78 => absurd cw78 (by omega))
          refine E_goto (tgt := 14) dX12_readsSum_163 (by decide) ?_
          refine E.mask [true, true, false] ?_
          have e9 := fc_14 k2 ((sgL (c q2.1), 0) :: (csR true st q2.2).1) (q2.1 + 1, (csR true st q2.2).2) hfc
          have e8 : n14 ((sgL (c q2.1), 0) :: (csR true st q2.2).1) = n14 (csR true st q2.2).1 := by show (if sgL (c q2.1) = 14 then 1 else 0) + n14 (csR true st q2.2).1 = n14 (csR true st q2.2).1; rw [if_neg (by omega)]; omega
          exact (show (fun (k2 : Nat) (st : WK) (q2 : TS) => k2 + n14 st = k → ∀ I2 : IM, FLm I I2 → PLm k2 (st ++ B) q2 I2 → E g mX12_readsSum d 0 0 14 [.ref 114, .int (nI (B.length)), jk] [] n I2 J R Q) r.1 r.2.1 r.2.2 by rw [hfc] at hof; exact hof) (by omega) I4 ((((f2.trans f3).trans ((FLm.row I3 _ _ (by decide)).trans (FLm.up _ _ (by decide)))).trans (FLm.up _ _ (by decide))).trans f4) p4
      · skip
        rw [decide_eq_false c2] at hof
        obtain ⟨i1, i2, i3, i4⟩ := cs_inv (al := false) st q2.2 ho
        have hl3 : ((csR false st q2.2).1 ++ B).length < 260 := by rw [List.length_append]; omega
        refine E_aload_n dX12_readsSum_14 rfl ?_
        refine E_callV (As := []) (ci := 11) (kc' := 0) (ks' := 0) (kc := 0) (ks := 0) dX12_readsSum_15 ok_X12_here w_X12_142 i_X12_here s_X12_here rfl (by decide) rfl (Nat.lt_of_lt_of_le (by decide) hN) rfl rfl rfl (Nat.le_of_ble_eq_true rfl) (Nat.le_of_ble_eq_true rfl) (by omega) (m_here (d := 0) hN hR hc (Nat.le_trans hL (by decide)) (hC.keep f2).1 (hC.keep f2).2 (p := q2.1) (by omega) p2.1 ?_)
        refine E_callS (As := [_]) (kc' := 0) (ks' := 0) (kc := 0) (ks := 0) dX12_readsSum_18 ok_X12_sumSign w_X12_191 st_X12_sumSign rfl rfl rfl (Nat.le_of_ble_eq_true rfl) (Nat.le_of_ble_eq_true rfl) (by omega) (m_sumSign (d := 0) (x := c q2.1) ?_)
        refine E.top (if_neg c1) ?_
        refine E_istore_n dX12_readsSum_21 (Nat.le_of_ble_eq_true rfl) ?_
        refine E_iload_n dX12_readsSum_22 rfl ?_
        refine E_ic (-1) dX12_readsSum_23 (by decide) ?_
        refine E_icmp_eq (tgt := 83) dX12_readsSum_24 (by decide) (fun cw24 => by first | exact absurd cw24 (nI_m1 (by omega)) | exact absurd (nI_m1 (by omega)) cw24) (fun cw24 => ?_)
        refine E_aload_n dX12_readsSum_27 rfl ?_
        refine E_iload_n dX12_readsSum_28 rfl ?_
        refine E_ic (nI 4) dX12_readsSum_29 (by decide) ?_
        refine E_cN_ge (a := sgL (c q2.1)) (b := 4) (tgt := 37) dX12_readsSum_30 (by omega) (by decide) (by decide) (fun cw30 => ?_) (fun cw30 => absurd cw30 (by omega))
        refine E_ic (nI 0) dX12_readsSum_37 (by decide) ?_
        refine E_callV (As := [_]) (ci := 11) (kc' := 0) (ks' := 0) (kc := 0) (ks := 0) dX12_readsSum_38 ok_X12_closesSums w_X12_194 i_X12_closesSums s_X12_closesSums rfl (by decide) rfl (Nat.lt_of_lt_of_le (by decide) hN) rfl rfl rfl (Nat.le_of_ble_eq_true rfl) (Nat.le_of_ble_eq_true rfl) (by omega) (m_closes0 (d := 1) (k := k2) (by decide) hN hR hB st q2 I2 (by omega) hl hv p2 (fun I3 f3 p3 => ?_))
        refine E_aload_n dX12_readsSum_41 rfl ?_
        refine E_getR dX12_readsSum_42 f_X12_35 rfl (Nat.lt_of_lt_of_le (by decide) hN) rfl (hR _ _ _ rfl) ?_
        refine E_aload_n dX12_readsSum_45 rfl ?_
        refine E_getI dX12_readsSum_46 f_X12_167 rfl (Nat.lt_of_lt_of_le (by decide) hN) rfl ?_
        refine E.top (p3.2.2.2.2.1) ?_
        refine E_ldc (nI 1048576) dX12_readsSum_49 k_X12_163 ?_
        refine E_iload_n dX12_readsSum_51 rfl ?_
        refine E_imul dX12_readsSum_52 ?_
        refine E.top (pk_mul 1048576 (sgL (c q2.1))) ?_
        refine E_iastN dX12_readsSum_53 rfl (Nat.lt_of_lt_of_le (by decide) hN) (by omega) ?_
        refine E_aload_n dX12_readsSum_54 rfl ?_
        refine E_aload_n dX12_readsSum_55 rfl ?_
        refine E_getI dX12_readsSum_56 f_X12_167 rfl (Nat.lt_of_lt_of_le (by decide) hN) rfl ?_
        refine E.top ((congrFun (up2_o _ 123 _ _ 114 (by decide)) 14).trans p3.2.2.2.2.1) ?_
        refine E_ic (nI 1) dX12_readsSum_59 (by decide) ?_
        refine E_iadd dX12_readsSum_60 ?_
        refine E.top (nI_add (((csR false st q2.2).1 ++ B).length) 1) ?_
        refine E_putI dX12_readsSum_61 f_X12_167 rfl (Nat.lt_of_lt_of_le (by decide) hN) rfl ?_
        refine E_aload_n dX12_readsSum_64 rfl ?_
        refine E_aload_n dX12_readsSum_65 rfl ?_
        refine E_getI dX12_readsSum_66 f_X12_136 rfl (Nat.lt_of_lt_of_le (by decide) hN) rfl ?_
        refine E.top ((p3.push (sgL (c q2.1), 0)).1) ?_
        refine E_ic (nI 1) dX12_readsSum_69 (by decide) ?_
        refine E_iadd dX12_readsSum_70 ?_
        refine E.top (nI_add (q2.1) 1) ?_
        refine E_putI dX12_readsSum_71 f_X12_136 rfl (Nat.lt_of_lt_of_le (by decide) hN) rfl ?_
        refine E_aload_n dX12_readsSum_74 rfl ?_
        refine E_callV (As := []) (ci := 11) (kc' := 0) (ks' := 0) (kc := 0) (ks := 0) dX12_readsSum_75 ok_X12_readsFactor w_X12_188 i_X12_readsFactor s_X12_readsFactor rfl (by decide) rfl (Nat.lt_of_lt_of_le (by decide) hN) rfl rfl rfl (Nat.le_of_ble_eq_true rfl) (Nat.le_of_ble_eq_true rfl) (by omega) (m_readsFactor (d := 3) (B := B) (by decide) hN hR hc hL k2 ((sgL (c q2.1), 0) :: (csR false st q2.2).1) (q2.1 + 1, (csR false st q2.2).2) _ (by omega) ⟨hp, by show (csR false st q2.2).2.1 + ((csR false st q2.2).1.length + 1) ≤ q2.1 + 1; omega, by show (csR false st q2.2).1.length + 1 + B.length ≤ q2.1 + 1; omega⟩ (hC.keep (((f2.trans f3).trans ((FLm.row I3 _ _ (by decide)).trans (FLm.up _ _ (by decide)))).trans (FLm.up _ _ (by decide)))) ((p3.push (sgL (c q2.1), 0)).at (q2.1 + 1)) ?_)
        cases hfc : fcR c k2 ((sgL (c q2.1), 0) :: (csR false st q2.2).1) (q2.1 + 1, (csR false st q2.2).2) with
        | inl x =>
          intro I4 f4 e4
          refine E_zN_ne (a := 0) (tgt := 163) dX12_readsSum_78 (by decide) (by decide) (fun cw78 => absurd cw78 (by omega)) (fun cw78 => ?_)
          refine E_ic (nI 0) dX12_readsSum_81 (by decide) ?_
          exact E_zret dX12_readsSum_82 rfl (by decide) ((show (fun (x : Int32) => ∀ I' : IM, FLm I I' → I' 114 10 = x → Q (some (.int 0)) n I' J R) x by rw [hfc] at hof; exact hof) I4 ((((f2.trans f3).trans ((FLm.row I3 _ _ (by decide)).trans (FLm.up _ _ (by decide)))).trans (FLm.up _ _ (by decide))).trans f4) e4)
        | inr r =>
          intro I4 f4 p4
          refine E_zN_ne (a := 1) (tgt := 163) dX12_readsSum_78 (by decide) (by decide) (fun cw78 => ?_) (fun cw78 => absurd cw78 (by omega))
          refine E_goto (tgt := 14) dX12_readsSum_163 (by decide) ?_
          refine E.mask [true, true, false] ?_
          have e9 := fc_14 k2 ((sgL (c q2.1), 0) :: (csR false st q2.2).1) (q2.1 + 1, (csR false st q2.2).2) hfc
          have e8 : n14 ((sgL (c q2.1), 0) :: (csR false st q2.2).1) = n14 (csR false st q2.2).1 := by show (if sgL (c q2.1) = 14 then 1 else 0) + n14 (csR false st q2.2).1 = n14 (csR false st q2.2).1; rw [if_neg (by omega)]; omega
          exact (show (fun (k2 : Nat) (st : WK) (q2 : TS) => k2 + n14 st = k → ∀ I2 : IM, FLm I I2 → PLm k2 (st ++ B) q2 I2 → E g mX12_readsSum d 0 0 14 [.ref 114, .int (nI (B.length)), jk] [] n I2 J R Q) r.1 r.2.1 r.2.2 by rw [hfc] at hof; exact hof) (by omega) I4 ((((f2.trans f3).trans ((FLm.row I3 _ _ (by decide)).trans (FLm.up _ _ (by decide)))).trans (FLm.up _ _ (by decide))).trans f4) p4
    · intro k2 st q2 st' x hb2 ho c0 c93 hcs hhd e2 I2 f2 p2
      obtain ⟨b1, b2, b3⟩ := hb2
      have hl : (st ++ B).length < 260 := by rw [List.length_append]; omega
      have hv := okV_app ho hvB
      have hn := (cs_inv (al := true) st q2.2 ho).1
      rw [hcs] at hn
      have hn : 1 + n14 st' = n14 st := hn
      refine E_aload_n dX12_readsSum_14 rfl ?_
      refine E_callV (As := []) (ci := 11) (kc' := 0) (ks' := 0) (kc := 0) (ks := 0) dX12_readsSum_15 ok_X12_here w_X12_142 i_X12_here s_X12_here rfl (by decide) rfl (Nat.lt_of_lt_of_le (by decide) hN) rfl rfl rfl (Nat.le_of_ble_eq_true rfl) (Nat.le_of_ble_eq_true rfl) (by omega) (m_here (d := 0) hN hR hc (Nat.le_trans hL (by decide)) (hC.keep f2).1 (hC.keep f2).2 (p := q2.1) (by omega) p2.1 ?_)
      refine E_callS (As := [_]) (kc' := 0) (ks' := 0) (kc := 0) (ks := 0) dX12_readsSum_18 ok_X12_sumSign w_X12_191 st_X12_sumSign rfl rfl rfl (Nat.le_of_ble_eq_true rfl) (Nat.le_of_ble_eq_true rfl) (by omega) (m_sumSign (d := 0) (x := c q2.1) ?_)
      refine E.top (if_pos c0) ?_
      refine E_istore_n dX12_readsSum_21 (Nat.le_of_ble_eq_true rfl) ?_
      refine E_iload_n dX12_readsSum_22 rfl ?_
      refine E_ic (-1) dX12_readsSum_23 (by decide) ?_
      refine E_icmp_eq (tgt := 83) dX12_readsSum_24 (by decide) (fun cw24 => ?_) (fun cw24 => by first | exact absurd cw24 (rfl) | exact absurd (rfl) cw24)
      refine E_aload_n dX12_readsSum_83 rfl ?_
      refine E_callV (As := []) (ci := 11) (kc' := 0) (ks' := 0) (kc := 0) (ks := 0) dX12_readsSum_84 ok_X12_here w_X12_142 i_X12_here s_X12_here rfl (by decide) rfl (Nat.lt_of_lt_of_le (by decide) hN) rfl rfl rfl (Nat.le_of_ble_eq_true rfl) (Nat.le_of_ble_eq_true rfl) (by omega) (m_here (d := 0) hN hR hc (Nat.le_trans hL (by decide)) (hC.keep f2).1 (hC.keep f2).2 (p := q2.1) (by omega) p2.1 ?_)
      refine E_bp (nI 93) dX12_readsSum_87 (by decide) ?_
      refine E_icmp_ne (tgt := 138) dX12_readsSum_89 (by decide) (fun cw89 => by first | exact absurd cw89 ((ch_eq (k := 93) (by decide)).mpr c93) | exact absurd ((ch_eq (k := 93) (by decide)).mpr c93) cw89) (fun cw89 => ?_)
      refine E_aload_n dX12_readsSum_92 rfl ?_
      refine E_iload_n dX12_readsSum_93 rfl ?_
      refine E_callV (As := [_]) (ci := 11) (kc' := 0) (ks' := 0) (kc := 0) (ks := 0) dX12_readsSum_94 ok_X12_hasOpenSum w_X12_198 i_X12_hasOpenSum s_X12_hasOpenSum rfl (by decide) rfl (Nat.lt_of_lt_of_le (by decide) hN) rfl rfl rfl (Nat.le_of_ble_eq_true rfl) (Nat.le_of_ble_eq_true rfl) (by omega) (m_hasOpen (d := 0) (st := st) (B := B) (q := q2) hN hR hl hv p2 (fun z => ?_) (fun z => ?_))
      · skip
        refine E_zN_eq (a := 1) (tgt := 138) dX12_readsSum_97 (by decide) (by decide) (fun cw97 => absurd cw97 (by omega)) (fun cw97 => ?_)
        refine E_aload_n dX12_readsSum_100 rfl ?_
        refine E_ic (nI 1) dX12_readsSum_101 (by decide) ?_
        refine E_callV (As := [_]) (ci := 11) (kc' := 0) (ks' := 0) (kc := 0) (ks := 0) dX12_readsSum_102 ok_X12_closesSums w_X12_194 i_X12_closesSums s_X12_closesSums rfl (by decide) rfl (Nat.lt_of_lt_of_le (by decide) hN) rfl rfl rfl (Nat.le_of_ble_eq_true rfl) (Nat.le_of_ble_eq_true rfl) (by omega) (m_closes1 (d := 1) (k := k2) (by decide) hN hR hB st q2 I2 (by omega) hl hv p2 (fun I3 f3 p3 => ?_))
        rw [hcs] at p3
        have p3 : PLm k2 ((14, 0) :: (st' ++ B)) (q2.1, x) I3 := p3
        refine E_aload_n dX12_readsSum_105 rfl ?_
        refine E_aload_n dX12_readsSum_106 rfl ?_
        refine E_getI dX12_readsSum_107 f_X12_167 rfl (Nat.lt_of_lt_of_le (by decide) hN) rfl ?_
        refine E.top (p3.2.2.2.2.1) ?_
        refine E_ic (nI 1) dX12_readsSum_110 (by decide) ?_
        refine E_isub dX12_readsSum_111 ?_
        refine E.top (pk_sub (a := (st' ++ B).length + 1) (b := 1) (by omega)) ?_
        refine E.top (congrArg nI (show (st' ++ B).length + 1 - 1 = (st' ++ B).length from rfl)) ?_
        refine E_putI dX12_readsSum_112 f_X12_167 rfl (Nat.lt_of_lt_of_le (by decide) hN) rfl ?_
        refine E_aload_n dX12_readsSum_115 rfl ?_
        refine E_aload_n dX12_readsSum_116 rfl ?_
        refine E_getI dX12_readsSum_117 f_X12_164 rfl (Nat.lt_of_lt_of_le (by decide) hN) rfl ?_
        refine E.top (p3.pop.2.2.2.1) ?_
        refine E_ic (nI 1) dX12_readsSum_120 (by decide) ?_
        refine E_isub dX12_readsSum_121 ?_
        refine E.top (pk_sub (a := 6 - k2) (b := 1) (by omega)) ?_
        refine E.top (congrArg nI (show 6 - k2 - 1 = 6 - (k2 + 1) by omega)) ?_
        refine E_putI dX12_readsSum_122 f_X12_164 rfl (Nat.lt_of_lt_of_le (by decide) hN) rfl ?_
        refine E_aload_n dX12_readsSum_125 rfl ?_
        refine E_aload_n dX12_readsSum_126 rfl ?_
        refine E_getI dX12_readsSum_127 f_X12_136 rfl (Nat.lt_of_lt_of_le (by decide) hN) rfl ?_
        refine E.top ((PLm.op (k2 := k2 + 1) p3.pop).1) ?_
        refine E_ic (nI 1) dX12_readsSum_130 (by decide) ?_
        refine E_iadd dX12_readsSum_131 ?_
        refine E.top (nI_add (q2.1) 1) ?_
        refine E_putI dX12_readsSum_132 f_X12_136 rfl (Nat.lt_of_lt_of_le (by decide) hN) rfl ?_
        refine E_goto (tgt := 163) dX12_readsSum_135 (by decide) ?_
        refine E_goto (tgt := 14) dX12_readsSum_163 (by decide) ?_
        refine E.mask [true, true, false] ?_
        exact hhd (by omega) _ (((f2.trans f3).trans ((FLm.up I3 _ (by decide)).trans (FLm.up _ _ (by decide)))).trans (FLm.up _ _ (by decide))) ((PLm.op (k2 := k2 + 1) p3.pop).at (q2.1 + 1))
      · skip
        exact absurd (n14_no z) (by omega)
    · intro k2 st q2 hb2 ho c0 c93 hno hfl e2 I2 f2 p2
      obtain ⟨b1, b2, b3⟩ := hb2
      have hl : (st ++ B).length < 260 := by rw [List.length_append]; omega
      have hv := okV_app ho hvB
      refine E_aload_n dX12_readsSum_14 rfl ?_
      refine E_callV (As := []) (ci := 11) (kc' := 0) (ks' := 0) (kc := 0) (ks := 0) dX12_readsSum_15 ok_X12_here w_X12_142 i_X12_here s_X12_here rfl (by decide) rfl (Nat.lt_of_lt_of_le (by decide) hN) rfl rfl rfl (Nat.le_of_ble_eq_true rfl) (Nat.le_of_ble_eq_true rfl) (by omega) (m_here (d := 0) hN hR hc (Nat.le_trans hL (by decide)) (hC.keep f2).1 (hC.keep f2).2 (p := q2.1) (by omega) p2.1 ?_)
      refine E_callS (As := [_]) (kc' := 0) (ks' := 0) (kc := 0) (ks := 0) dX12_readsSum_18 ok_X12_sumSign w_X12_191 st_X12_sumSign rfl rfl rfl (Nat.le_of_ble_eq_true rfl) (Nat.le_of_ble_eq_true rfl) (by omega) (m_sumSign (d := 0) (x := c q2.1) ?_)
      refine E.top (if_pos c0) ?_
      refine E_istore_n dX12_readsSum_21 (Nat.le_of_ble_eq_true rfl) ?_
      refine E_iload_n dX12_readsSum_22 rfl ?_
      refine E_ic (-1) dX12_readsSum_23 (by decide) ?_
      refine E_icmp_eq (tgt := 83) dX12_readsSum_24 (by decide) (fun cw24 => ?_) (fun cw24 => by first | exact absurd cw24 (rfl) | exact absurd (rfl) cw24)
      refine E_aload_n dX12_readsSum_83 rfl ?_
      refine E_callV (As := []) (ci := 11) (kc' := 0) (ks' := 0) (kc := 0) (ks := 0) dX12_readsSum_84 ok_X12_here w_X12_142 i_X12_here s_X12_here rfl (by decide) rfl (Nat.lt_of_lt_of_le (by decide) hN) rfl rfl rfl (Nat.le_of_ble_eq_true rfl) (Nat.le_of_ble_eq_true rfl) (by omega) (m_here (d := 0) hN hR hc (Nat.le_trans hL (by decide)) (hC.keep f2).1 (hC.keep f2).2 (p := q2.1) (by omega) p2.1 ?_)
      refine E_bp (nI 93) dX12_readsSum_87 (by decide) ?_
      refine E_icmp_ne (tgt := 138) dX12_readsSum_89 (by decide) (fun cw89 => ?_) (fun cw89 => by first | exact absurd cw89 ((fun z => c93 ((ch_eq (k := 93) (by decide)).mp z))) | exact absurd ((fun z => c93 ((ch_eq (k := 93) (by decide)).mp z))) cw89)
      refine E_aload_n dX12_readsSum_138 rfl ?_
      refine E_iload_n dX12_readsSum_139 rfl ?_
      refine E_callV (As := [_]) (ci := 11) (kc' := 0) (ks' := 0) (kc := 0) (ks := 0) dX12_readsSum_140 ok_X12_hasOpenSum w_X12_198 i_X12_hasOpenSum s_X12_hasOpenSum rfl (by decide) rfl (Nat.lt_of_lt_of_le (by decide) hN) rfl rfl rfl (Nat.le_of_ble_eq_true rfl) (Nat.le_of_ble_eq_true rfl) (by omega) (m_hasOpen (d := 0) (st := st) (B := B) (q := q2) hN hR hl hv p2 (fun z => ?_) (fun z => ?_))
      · skip
        refine E_zN_eq (a := 1) (tgt := 156) dX12_readsSum_143 (by decide) (by decide) (fun cw143 => absurd cw143 (by omega)) (fun cw143 => ?_)
        refine E_aload_n dX12_readsSum_146 rfl ?_
        refine E_ic (nI 1) dX12_readsSum_147 (by decide) ?_
        refine E_aload_n dX12_readsSum_148 rfl ?_
        refine E_getI dX12_readsSum_149 f_X12_136 rfl (Nat.lt_of_lt_of_le (by decide) hN) rfl ?_
        refine E.top (p2.1) ?_
        refine E_callV (As := [_, _]) (ci := 11) (kc' := 0) (ks' := 0) (kc := 0) (ks := 0) dX12_readsSum_152 ok_X12_wrongAt w_X12_149 i_X12_wrongAt s_X12_wrongAt rfl (by decide) rfl (Nat.lt_of_lt_of_le (by decide) hN) rfl rfl rfl (Nat.le_of_ble_eq_true rfl) (Nat.le_of_ble_eq_true rfl) (by omega) (m_wrongAt (d := 0) (k := 1) (q := q2.1) hN ?_)
        exact E_zret dX12_readsSum_155 rfl (by decide) (hfl _ (f2.trans (FLm.up I2 _ (by decide))) (up2_s _ _ _ _))
      · skip
        exact absurd z hno
    · intro k2 st q2 x hb2 ho c0 hno hcs hok e2 I2 f2 p2
      obtain ⟨b1, b2, b3⟩ := hb2
      have hl : (st ++ B).length < 260 := by rw [List.length_append]; omega
      have hv := okV_app ho hvB
      have ek : k2 = k := by rw [n14_no hno] at e2; exact e2
      subst ek
      by_cases c93 : c q2.1 = 93
      · skip
        refine E_aload_n dX12_readsSum_14 rfl ?_
        refine E_callV (As := []) (ci := 11) (kc' := 0) (ks' := 0) (kc := 0) (ks := 0) dX12_readsSum_15 ok_X12_here w_X12_142 i_X12_here s_X12_here rfl (by decide) rfl (Nat.lt_of_lt_of_le (by decide) hN) rfl rfl rfl (Nat.le_of_ble_eq_true rfl) (Nat.le_of_ble_eq_true rfl) (by omega) (m_here (d := 0) hN hR hc (Nat.le_trans hL (by decide)) (hC.keep f2).1 (hC.keep f2).2 (p := q2.1) (by omega) p2.1 ?_)
        refine E_callS (As := [_]) (kc' := 0) (ks' := 0) (kc := 0) (ks := 0) dX12_readsSum_18 ok_X12_sumSign w_X12_191 st_X12_sumSign rfl rfl rfl (Nat.le_of_ble_eq_true rfl) (Nat.le_of_ble_eq_true rfl) (by omega) (m_sumSign (d := 0) (x := c q2.1) ?_)
        refine E.top (if_pos c0) ?_
        refine E_istore_n dX12_readsSum_21 (Nat.le_of_ble_eq_true rfl) ?_
        refine E_iload_n dX12_readsSum_22 rfl ?_
        refine E_ic (-1) dX12_readsSum_23 (by decide) ?_
        refine E_icmp_eq (tgt := 83) dX12_readsSum_24 (by decide) (fun cw24 => ?_) (fun cw24 => by first | exact absurd cw24 (rfl) | exact absurd (rfl) cw24)
        refine E_aload_n dX12_readsSum_83 rfl ?_
        refine E_callV (As := []) (ci := 11) (kc' := 0) (ks' := 0) (kc := 0) (ks := 0) dX12_readsSum_84 ok_X12_here w_X12_142 i_X12_here s_X12_here rfl (by decide) rfl (Nat.lt_of_lt_of_le (by decide) hN) rfl rfl rfl (Nat.le_of_ble_eq_true rfl) (Nat.le_of_ble_eq_true rfl) (by omega) (m_here (d := 0) hN hR hc (Nat.le_trans hL (by decide)) (hC.keep f2).1 (hC.keep f2).2 (p := q2.1) (by omega) p2.1 ?_)
        refine E_bp (nI 93) dX12_readsSum_87 (by decide) ?_
        refine E_icmp_ne (tgt := 138) dX12_readsSum_89 (by decide) (fun cw89 => by first | exact absurd cw89 ((ch_eq (k := 93) (by decide)).mpr c93) | exact absurd ((ch_eq (k := 93) (by decide)).mpr c93) cw89) (fun cw89 => ?_)
        refine E_aload_n dX12_readsSum_92 rfl ?_
        refine E_iload_n dX12_readsSum_93 rfl ?_
        refine E_callV (As := [_]) (ci := 11) (kc' := 0) (ks' := 0) (kc := 0) (ks := 0) dX12_readsSum_94 ok_X12_hasOpenSum w_X12_198 i_X12_hasOpenSum s_X12_hasOpenSum rfl (by decide) rfl (Nat.lt_of_lt_of_le (by decide) hN) rfl rfl rfl (Nat.le_of_ble_eq_true rfl) (Nat.le_of_ble_eq_true rfl) (by omega) (m_hasOpen (d := 0) (st := st) (B := B) (q := q2) hN hR hl hv p2 (fun z => ?_) (fun z => ?_))
        · skip
          exact absurd hno z
        · skip
          refine E_zN_eq (a := 0) (tgt := 138) dX12_readsSum_97 (by decide) (by decide) (fun cw97 => ?_) (fun cw97 => absurd cw97 (by omega))
          refine E_aload_n dX12_readsSum_138 rfl ?_
          refine E_iload_n dX12_readsSum_139 rfl ?_
          refine E_callV (As := [_]) (ci := 11) (kc' := 0) (ks' := 0) (kc := 0) (ks := 0) dX12_readsSum_140 ok_X12_hasOpenSum w_X12_198 i_X12_hasOpenSum s_X12_hasOpenSum rfl (by decide) rfl (Nat.lt_of_lt_of_le (by decide) hN) rfl rfl rfl (Nat.le_of_ble_eq_true rfl) (Nat.le_of_ble_eq_true rfl) (by omega) (m_hasOpen (d := 0) (st := st) (B := B) (q := q2) hN hR hl hv p2 (fun z => ?_) (fun z => ?_))
          · skip
            exact absurd hno z
          · skip
            refine E_zN_eq (a := 0) (tgt := 156) dX12_readsSum_143 (by decide) (by decide) (fun cw143 => ?_) (fun cw143 => absurd cw143 (by omega))
            refine E_aload_n dX12_readsSum_156 rfl ?_
            refine E_ic (nI 1) dX12_readsSum_157 (by decide) ?_
            refine E_callV (As := [_]) (ci := 11) (kc' := 0) (ks' := 0) (kc := 0) (ks := 0) dX12_readsSum_158 ok_X12_closesSums w_X12_194 i_X12_closesSums s_X12_closesSums rfl (by decide) rfl (Nat.lt_of_lt_of_le (by decide) hN) rfl rfl rfl (Nat.le_of_ble_eq_true rfl) (Nat.le_of_ble_eq_true rfl) (by omega) (m_closes1 (d := 1) (k := k2) (by decide) hN hR hB st q2 I2 (by omega) hl hv p2 (fun I3 f3 p3 => ?_))
            rw [hcs] at p3
            have p3 : PLm k2 B (q2.1, x) I3 := p3
            refine E_ic (nI 1) dX12_readsSum_161 (by decide) ?_
            exact E_zret dX12_readsSum_162 rfl (by decide) (hok I3 (f2.trans f3) p3)
      · skip
        refine E_aload_n dX12_readsSum_14 rfl ?_
        refine E_callV (As := []) (ci := 11) (kc' := 0) (ks' := 0) (kc := 0) (ks := 0) dX12_readsSum_15 ok_X12_here w_X12_142 i_X12_here s_X12_here rfl (by decide) rfl (Nat.lt_of_lt_of_le (by decide) hN) rfl rfl rfl (Nat.le_of_ble_eq_true rfl) (Nat.le_of_ble_eq_true rfl) (by omega) (m_here (d := 0) hN hR hc (Nat.le_trans hL (by decide)) (hC.keep f2).1 (hC.keep f2).2 (p := q2.1) (by omega) p2.1 ?_)
        refine E_callS (As := [_]) (kc' := 0) (ks' := 0) (kc := 0) (ks := 0) dX12_readsSum_18 ok_X12_sumSign w_X12_191 st_X12_sumSign rfl rfl rfl (Nat.le_of_ble_eq_true rfl) (Nat.le_of_ble_eq_true rfl) (by omega) (m_sumSign (d := 0) (x := c q2.1) ?_)
        refine E.top (if_pos c0) ?_
        refine E_istore_n dX12_readsSum_21 (Nat.le_of_ble_eq_true rfl) ?_
        refine E_iload_n dX12_readsSum_22 rfl ?_
        refine E_ic (-1) dX12_readsSum_23 (by decide) ?_
        refine E_icmp_eq (tgt := 83) dX12_readsSum_24 (by decide) (fun cw24 => ?_) (fun cw24 => by first | exact absurd cw24 (rfl) | exact absurd (rfl) cw24)
        refine E_aload_n dX12_readsSum_83 rfl ?_
        refine E_callV (As := []) (ci := 11) (kc' := 0) (ks' := 0) (kc := 0) (ks := 0) dX12_readsSum_84 ok_X12_here w_X12_142 i_X12_here s_X12_here rfl (by decide) rfl (Nat.lt_of_lt_of_le (by decide) hN) rfl rfl rfl (Nat.le_of_ble_eq_true rfl) (Nat.le_of_ble_eq_true rfl) (by omega) (m_here (d := 0) hN hR hc (Nat.le_trans hL (by decide)) (hC.keep f2).1 (hC.keep f2).2 (p := q2.1) (by omega) p2.1 ?_)
        refine E_bp (nI 93) dX12_readsSum_87 (by decide) ?_
        refine E_icmp_ne (tgt := 138) dX12_readsSum_89 (by decide) (fun cw89 => ?_) (fun cw89 => by first | exact absurd cw89 ((fun z => c93 ((ch_eq (k := 93) (by decide)).mp z))) | exact absurd ((fun z => c93 ((ch_eq (k := 93) (by decide)).mp z))) cw89)
        refine E_aload_n dX12_readsSum_138 rfl ?_
        refine E_iload_n dX12_readsSum_139 rfl ?_
        refine E_callV (As := [_]) (ci := 11) (kc' := 0) (ks' := 0) (kc := 0) (ks := 0) dX12_readsSum_140 ok_X12_hasOpenSum w_X12_198 i_X12_hasOpenSum s_X12_hasOpenSum rfl (by decide) rfl (Nat.lt_of_lt_of_le (by decide) hN) rfl rfl rfl (Nat.le_of_ble_eq_true rfl) (Nat.le_of_ble_eq_true rfl) (by omega) (m_hasOpen (d := 0) (st := st) (B := B) (q := q2) hN hR hl hv p2 (fun z => ?_) (fun z => ?_))
        · skip
          exact absurd hno z
        · skip
          refine E_zN_eq (a := 0) (tgt := 156) dX12_readsSum_143 (by decide) (by decide) (fun cw143 => ?_) (fun cw143 => absurd cw143 (by omega))
          refine E_aload_n dX12_readsSum_156 rfl ?_
          refine E_ic (nI 1) dX12_readsSum_157 (by decide) ?_
          refine E_callV (As := [_]) (ci := 11) (kc' := 0) (ks' := 0) (kc := 0) (ks := 0) dX12_readsSum_158 ok_X12_closesSums w_X12_194 i_X12_closesSums s_X12_closesSums rfl (by decide) rfl (Nat.lt_of_lt_of_le (by decide) hN) rfl rfl rfl (Nat.le_of_ble_eq_true rfl) (Nat.le_of_ble_eq_true rfl) (by omega) (m_closes1 (d := 1) (k := k2) (by decide) hN hR hB st q2 I2 (by omega) hl hv p2 (fun I3 f3 p3 => ?_))
          rw [hcs] at p3
          have p3 : PLm k2 B (q2.1, x) I3 := p3
          refine E_ic (nI 1) dX12_readsSum_161 (by decide) ?_
          exact E_zret dX12_readsSum_162 rfl (by decide) (hok I3 (f2.trans f3) p3)
  have hof := sm_R hc hL H hq hs hb hQ.o
  refine E_aload_n dX12_readsSum_0 rfl ?_
  refine E_getI dX12_readsSum_1 f_X12_167 rfl (Nat.lt_of_lt_of_le (by decide) hN) rfl ?_
  refine E.top (hP.2.2.2.2.1) ?_
  refine E_istore_n dX12_readsSum_4 (Nat.le_of_ble_eq_true rfl) ?_
  refine E_aload_n dX12_readsSum_5 rfl ?_
  refine E_callV (As := []) (ci := 11) (kc' := 0) (ks' := 0) (kc := 0) (ks := 0) dX12_readsSum_6 ok_X12_readsFactor w_X12_188 i_X12_readsFactor s_X12_readsFactor rfl (by decide) rfl (Nat.lt_of_lt_of_le (by decide) hN) rfl rfl rfl (Nat.le_of_ble_eq_true rfl) (Nat.le_of_ble_eq_true rfl) (by omega) (m_readsFactor (d := 3) (B := B) (by decide) hN hR hc hL k [] q I hk ⟨hq, hs, by show 0 + B.length ≤ q.1; omega⟩ hC hP ?_)
  cases hfc : fcR c k [] q with
  | inl x =>
    intro I4 f4 e4
    refine E_zN_ne (a := 0) (tgt := 14) dX12_readsSum_9 (by decide) (by decide) (fun cw9 => absurd cw9 (by omega)) (fun cw9 => ?_)
    refine E_ic (nI 0) dX12_readsSum_12 (by decide) ?_
    exact E_zret dX12_readsSum_13 rfl (by decide) ((show (fun (x : Int32) => ∀ I' : IM, FLm I I' → I' 114 10 = x → Q (some (.int 0)) n I' J R) x by rw [hfc] at hof; exact hof) I4 f4 e4)
  | inr r =>
    intro I4 f4 p4
    refine E_zN_ne (a := 1) (tgt := 14) dX12_readsSum_9 (by decide) (by decide) (fun cw9 => ?_) (fun cw9 => absurd cw9 (by omega))
    have e9 := fc_14 k [] q hfc
    exact (show (fun (k2 : Nat) (st : WK) (q2 : TS) => k2 + n14 st = k → ∀ I2 : IM, FLm I I2 → PLm k2 (st ++ B) q2 I2 → E g mX12_readsSum d 0 0 14 [.ref 114, .int (nI (B.length)), jk] [] n I2 J R Q) r.1 r.2.1 r.2.2 by rw [hfc] at hof; exact hof) e9 I4 f4 p4
end PLawM4
