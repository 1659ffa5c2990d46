/-! ===== the law's conditions, as the reference reads them: readsCondition ===== -/
theorem PLm.w0 {k : Nat} {K : WK} {q : TS} {I : IM} (h : PLm k K q I) : PLm k [] q (up2 I 114 14 (nI 0)) := ⟨(up2_k I _ (by decide)).trans h.1, (up2_k I _ (by decide)).trans h.2.1, fun i hi => (congrFun (up2_o I 114 14 _ 122 (by decide)) i).trans (h.2.2.1 i hi), (up2_k I _ (by decide)).trans h.2.2.2.1, up2_s _ _ _ _, trivial⟩
section PLawM6
variable {g : GL} {d n : Nat} {I : IM} {J : JM} {R : RM} {Q : PQ} {t c : Nat → Nat} {L : Nat} {q : TS}
set_option maxRecDepth 100000 in
set_option maxHeartbeats 2000000 in
theorem m_readsCondition (hd : 6 ≤ d) (hN : 152 ≤ n) (hR : RS R) (hc : okc t L c) (hL : L ≤ 240) (hq : q.1 ≤ L) (hs : q.2.1 ≤ q.1) (hcd : CDok q.2.2 q.2.1) (hC : CLm t L I) (hP : PLm 6 [] q I) (hQ : OSm 6 [] I J R n Q (rcL c q)) : E g mX12_readsCondition d 0 0 0 (ent 1 [.ref 114]) [] n I J R Q := by
  have H : CDC c L (fun (x : Int32) => ∀ I' : IM, FLm I I' → I' 114 10 = x → Q (some (.int 0)) n I' J R) (fun (r : TS) => ∀ I' : IM, FLm I I' → PLm 6 [] r I' → Q (some (.int 1)) n I' J R) (fun (k : Nat) (K : WK) (q2 : TS) => k + nop K = 6 → ∀ I2 : IM, FLm I I2 → PLm k K q2 I2 → E g mX12_readsCondition d 0 0 40 [.ref 114] [] n I2 J R Q) (fun (k : Nat) (K : WK) (q2 : TS) => k + nop K = 6 → ∀ I2 : IM, FLm I I2 → PLm k K q2 I2 → E g mX12_readsCondition d 0 0 92 [.ref 114] [] n I2 J R Q) := by
    refine ⟨?_, ?_, ?_, ?_, ?_, ?_, ?_⟩
    · intro K q2 hi cc hfl hk I2 f2 p2
      obtain ⟨i1, i2, i3, i4, i5⟩ := id hi
      rcases cc with c1 | c1
      · skip
        refine E_aload_n dX12_readsCondition_40 rfl ?_
        refine E_callV (As := []) (ci := 11) (kc' := 0) (ks' := 0) (kc := 0) (ks := 0) dX12_readsCondition_41 ok_X12_here w_X12_142 i_X12_here s_X12_here rfl (by decide) rfl (Nat.lt_of_lt_of_le (by decide) hN) rfl rfl rfl (Nat.le_of_ble_eq_true rfl) (Nat.le_of_ble_eq_true rfl) (by omega) (m_here (d := 0) hN hR hc (Nat.le_trans hL (by decide)) (hC.keep f2).1 (hC.keep f2).2 (p := q2.1) (by omega) p2.1 ?_)
        refine E_bp (nI 33) dX12_readsCondition_44 (by decide) ?_
        refine E_icmp_eq (tgt := 58) dX12_readsCondition_46 (by decide) (fun cw46 => ?_) (fun cw46 => by first | exact absurd cw46 ((ch_eq (k := 33) (by decide)).mpr c1) | exact absurd ((ch_eq (k := 33) (by decide)).mpr c1) cw46)
        refine E_aload_n dX12_readsCondition_58 rfl ?_
        refine E_aload_n dX12_readsCondition_59 rfl ?_
        refine E_callV (As := []) (ci := 11) (kc' := 0) (ks' := 0) (kc := 0) (ks := 0) dX12_readsCondition_60 ok_X12_here w_X12_142 i_X12_here s_X12_here rfl (by decide) rfl (Nat.lt_of_lt_of_le (by decide) hN) rfl rfl rfl (Nat.le_of_ble_eq_true rfl) (Nat.le_of_ble_eq_true rfl) (by omega) (m_here (d := 0) hN hR hc (Nat.le_trans hL (by decide)) (hC.keep f2).1 (hC.keep f2).2 (p := q2.1) (by omega) p2.1 ?_)
        refine E_bp (nI 33) dX12_readsCondition_63 (by decide) ?_
        refine E_icmp_ne (tgt := 73) dX12_readsCondition_65 (by decide) (fun cw65 => by first | exact absurd cw65 ((ch_eq (k := 33) (by decide)).mpr c1) | exact absurd ((ch_eq (k := 33) (by decide)).mpr c1) cw65) (fun cw65 => ?_)
        refine E_bp (nI 10) dX12_readsCondition_68 (by decide) ?_
        refine E_goto (tgt := 75) dX12_readsCondition_70 (by decide) ?_
        refine E_callV (As := [_]) (ci := 11) (kc' := 0) (ks' := 0) (kc := 0) (ks := 0) dX12_readsCondition_75 ok_X12_opens w_X12_177 i_X12_opens s_X12_opens rfl (by decide) rfl (Nat.lt_of_lt_of_le (by decide) hN) rfl rfl rfl (Nat.le_of_ble_eq_true rfl) (Nat.le_of_ble_eq_true rfl) (by omega) (m_opens0 (d := 1) (x := 10) (K := K) (q := q2) (by decide) hN hR p2 ?_)
        refine E_zN_ne (a := 0) (tgt := 40) dX12_readsCondition_78 (by decide) (by decide) (fun cw78 => absurd cw78 (by omega)) (fun cw78 => ?_)
        refine E_ic (nI 0) dX12_readsCondition_81 (by decide) ?_
        exact E_zret dX12_readsCondition_82 rfl (by decide) (hfl _ (f2.trans (FLm.up I2 _ (by decide))) (up2_s _ _ _ _))
      · skip
        refine E_aload_n dX12_readsCondition_40 rfl ?_
        refine E_callV (As := []) (ci := 11) (kc' := 0) (ks' := 0) (kc := 0) (ks := 0) dX12_readsCondition_41 ok_X12_here w_X12_142 i_X12_here s_X12_here rfl (by decide) rfl (Nat.lt_of_lt_of_le (by decide) hN) rfl rfl rfl (Nat.le_of_ble_eq_true rfl) (Nat.le_of_ble_eq_true rfl) (by omega) (m_here (d := 0) hN hR hc (Nat.le_trans hL (by decide)) (hC.keep f2).1 (hC.keep f2).2 (p := q2.1) (by omega) p2.1 ?_)
        refine E_bp (nI 33) dX12_readsCondition_44 (by decide) ?_
        refine E_icmp_eq (tgt := 58) dX12_readsCondition_46 (by decide) (fun cw46 => by first | exact absurd cw46 ((fun z => by have := (ch_eq (k := 33) (by decide)).mp z; omega)) | exact absurd ((fun z => by have := (ch_eq (k := 33) (by decide)).mp z; omega)) cw46) (fun cw46 => ?_)
        refine E_aload_n dX12_readsCondition_49 rfl ?_
        refine E_callV (As := []) (ci := 11) (kc' := 0) (ks' := 0) (kc := 0) (ks := 0) dX12_readsCondition_50 ok_X12_here w_X12_142 i_X12_here s_X12_here rfl (by decide) rfl (Nat.lt_of_lt_of_le (by decide) hN) rfl rfl rfl (Nat.le_of_ble_eq_true rfl) (Nat.le_of_ble_eq_true rfl) (by omega) (m_here (d := 0) hN hR hc (Nat.le_trans hL (by decide)) (hC.keep f2).1 (hC.keep f2).2 (p := q2.1) (by omega) p2.1 ?_)
        refine E_bp (nI 40) dX12_readsCondition_53 (by decide) ?_
        refine E_icmp_ne (tgt := 83) dX12_readsCondition_55 (by decide) (fun cw55 => by first | exact absurd cw55 ((ch_eq (k := 40) (by decide)).mpr c1) | exact absurd ((ch_eq (k := 40) (by decide)).mpr c1) cw55) (fun cw55 => ?_)
        refine E_aload_n dX12_readsCondition_58 rfl ?_
        refine E_aload_n dX12_readsCondition_59 rfl ?_
        refine E_callV (As := []) (ci := 11) (kc' := 0) (ks' := 0) (kc := 0) (ks := 0) dX12_readsCondition_60 ok_X12_here w_X12_142 i_X12_here s_X12_here rfl (by decide) rfl (Nat.lt_of_lt_of_le (by decide) hN) rfl rfl rfl (Nat.le_of_ble_eq_true rfl) (Nat.le_of_ble_eq_true rfl) (by omega) (m_here (d := 0) hN hR hc (Nat.le_trans hL (by decide)) (hC.keep f2).1 (hC.keep f2).2 (p := q2.1) (by omega) p2.1 ?_)
        refine E_bp (nI 33) dX12_readsCondition_63 (by decide) ?_
        refine E_icmp_ne (tgt := 73) dX12_readsCondition_65 (by decide) (fun cw65 => ?_) (fun cw65 => by first | exact absurd cw65 ((fun z => by have := (ch_eq (k := 33) (by decide)).mp z; omega)) | exact absurd ((fun z => by have := (ch_eq (k := 33) (by decide)).mp z; omega)) cw65)
        refine E_bp (nI 13) dX12_readsCondition_73 (by decide) ?_
        refine E_callV (As := [_]) (ci := 11) (kc' := 0) (ks' := 0) (kc := 0) (ks := 0) dX12_readsCondition_75 ok_X12_opens w_X12_177 i_X12_opens s_X12_opens rfl (by decide) rfl (Nat.lt_of_lt_of_le (by decide) hN) rfl rfl rfl (Nat.le_of_ble_eq_true rfl) (Nat.le_of_ble_eq_true rfl) (by omega) (m_opens0 (d := 1) (x := 13) (K := K) (q := q2) (by decide) hN hR p2 ?_)
        refine E_zN_ne (a := 0) (tgt := 40) dX12_readsCondition_78 (by decide) (by decide) (fun cw78 => absurd cw78 (by omega)) (fun cw78 => ?_)
        refine E_ic (nI 0) dX12_readsCondition_81 (by decide) ?_
        exact E_zret dX12_readsCondition_82 rfl (by decide) (hfl _ (f2.trans (FLm.up I2 _ (by decide))) (up2_s _ _ _ _))
    · intro k K q2 hi cc hlh hk I2 f2 p2
      obtain ⟨i1, i2, i3, i4, i5⟩ := id hi
      rcases cc with c1 | c1
      · skip
        rw [if_pos c1] at hlh
        refine E_aload_n dX12_readsCondition_40 rfl ?_
        refine E_callV (As := []) (ci := 11) (kc' := 0) (ks' := 0) (kc := 0) (ks := 0) dX12_readsCondition_41 ok_X12_here w_X12_142 i_X12_here s_X12_here rfl (by decide) rfl (Nat.lt_of_lt_of_le (by decide) hN) rfl rfl rfl (Nat.le_of_ble_eq_true rfl) (Nat.le_of_ble_eq_true rfl) (by omega) (m_here (d := 0) hN hR hc (Nat.le_trans hL (by decide)) (hC.keep f2).1 (hC.keep f2).2 (p := q2.1) (by omega) p2.1 ?_)
        refine E_bp (nI 33) dX12_readsCondition_44 (by decide) ?_
        refine E_icmp_eq (tgt := 58) dX12_readsCondition_46 (by decide) (fun cw46 => ?_) (fun cw46 => by first | exact absurd cw46 ((ch_eq (k := 33) (by decide)).mpr c1) | exact absurd ((ch_eq (k := 33) (by decide)).mpr c1) cw46)
        refine E_aload_n dX12_readsCondition_58 rfl ?_
        refine E_aload_n dX12_readsCondition_59 rfl ?_
        refine E_callV (As := []) (ci := 11) (kc' := 0) (ks' := 0) (kc := 0) (ks := 0) dX12_readsCondition_60 ok_X12_here w_X12_142 i_X12_here s_X12_here rfl (by decide) rfl (Nat.lt_of_lt_of_le (by decide) hN) rfl rfl rfl (Nat.le_of_ble_eq_true rfl) (Nat.le_of_ble_eq_true rfl) (by omega) (m_here (d := 0) hN hR hc (Nat.le_trans hL (by decide)) (hC.keep f2).1 (hC.keep f2).2 (p := q2.1) (by omega) p2.1 ?_)
        refine E_bp (nI 33) dX12_readsCondition_63 (by decide) ?_
        refine E_icmp_ne (tgt := 73) dX12_readsCondition_65 (by decide) (fun cw65 => by first | exact absurd cw65 ((ch_eq (k := 33) (by decide)).mpr c1) | exact absurd ((ch_eq (k := 33) (by decide)).mpr c1) cw65) (fun cw65 => ?_)
        refine E_bp (nI 10) dX12_readsCondition_68 (by decide) ?_
        refine E_goto (tgt := 75) dX12_readsCondition_70 (by decide) ?_
        refine E_callV (As := [_]) (ci := 11) (kc' := 0) (ks' := 0) (kc := 0) (ks := 0) dX12_readsCondition_75 ok_X12_opens w_X12_177 i_X12_opens s_X12_opens rfl (by decide) rfl (Nat.lt_of_lt_of_le (by decide) hN) rfl rfl rfl (Nat.le_of_ble_eq_true rfl) (Nat.le_of_ble_eq_true rfl) (by omega) (m_opens1 (d := 0) (k := k) (x := 10) (K := K) (q := q2) (by omega) hN hR (by omega) p2 (fun I3 f3 p3 => ?_))
        refine E_zN_ne (a := 1) (tgt := 40) dX12_readsCondition_78 (by decide) (by decide) (fun cw78 => ?_) (fun cw78 => absurd cw78 (by omega))
        exact hlh (by show k + (1 + nop K) = 6; omega) I3 (f2.trans f3) p3
      · skip
        rw [if_neg (show ¬ c q2.1 = 33 by omega)] at hlh
        refine E_aload_n dX12_readsCondition_40 rfl ?_
        refine E_callV (As := []) (ci := 11) (kc' := 0) (ks' := 0) (kc := 0) (ks := 0) dX12_readsCondition_41 ok_X12_here w_X12_142 i_X12_here s_X12_here rfl (by decide) rfl (Nat.lt_of_lt_of_le (by decide) hN) rfl rfl rfl (Nat.le_of_ble_eq_true rfl) (Nat.le_of_ble_eq_true rfl) (by omega) (m_here (d := 0) hN hR hc (Nat.le_trans hL (by decide)) (hC.keep f2).1 (hC.keep f2).2 (p := q2.1) (by omega) p2.1 ?_)
        refine E_bp (nI 33) dX12_readsCondition_44 (by decide) ?_
        refine E_icmp_eq (tgt := 58) dX12_readsCondition_46 (by decide) (fun cw46 => by first | exact absurd cw46 ((fun z => by have := (ch_eq (k := 33) (by decide)).mp z; omega)) | exact absurd ((fun z => by have := (ch_eq (k := 33) (by decide)).mp z; omega)) cw46) (fun cw46 => ?_)
        refine E_aload_n dX12_readsCondition_49 rfl ?_
        refine E_callV (As := []) (ci := 11) (kc' := 0) (ks' := 0) (kc := 0) (ks := 0) dX12_readsCondition_50 ok_X12_here w_X12_142 i_X12_here s_X12_here rfl (by decide) rfl (Nat.lt_of_lt_of_le (by decide) hN) rfl rfl rfl (Nat.le_of_ble_eq_true rfl) (Nat.le_of_ble_eq_true rfl) (by omega) (m_here (d := 0) hN hR hc (Nat.le_trans hL (by decide)) (hC.keep f2).1 (hC.keep f2).2 (p := q2.1) (by omega) p2.1 ?_)
        refine E_bp (nI 40) dX12_readsCondition_53 (by decide) ?_
        refine E_icmp_ne (tgt := 83) dX12_readsCondition_55 (by decide) (fun cw55 => by first | exact absurd cw55 ((ch_eq (k := 40) (by decide)).mpr c1) | exact absurd ((ch_eq (k := 40) (by decide)).mpr c1) cw55) (fun cw55 => ?_)
        refine E_aload_n dX12_readsCondition_58 rfl ?_
        refine E_aload_n dX12_readsCondition_59 rfl ?_
        refine E_callV (As := []) (ci := 11) (kc' := 0) (ks' := 0) (kc := 0) (ks := 0) dX12_readsCondition_60 ok_X12_here w_X12_142 i_X12_here s_X12_here rfl (by decide) rfl (Nat.lt_of_lt_of_le (by decide) hN) rfl rfl rfl (Nat.le_of_ble_eq_true rfl) (Nat.le_of_ble_eq_true rfl) (by omega) (m_here (d := 0) hN hR hc (Nat.le_trans hL (by decide)) (hC.keep f2).1 (hC.keep f2).2 (p := q2.1) (by omega) p2.1 ?_)
        refine E_bp (nI 33) dX12_readsCondition_63 (by decide) ?_
        refine E_icmp_ne (tgt := 73) dX12_readsCondition_65 (by decide) (fun cw65 => ?_) (fun cw65 => by first | exact absurd cw65 ((fun z => by have := (ch_eq (k := 33) (by decide)).mp z; omega)) | exact absurd ((fun z => by have := (ch_eq (k := 33) (by decide)).mp z; omega)) cw65)
        refine E_bp (nI 13) dX12_readsCondition_73 (by decide) ?_
        refine E_callV (As := [_]) (ci := 11) (kc' := 0) (ks' := 0) (kc := 0) (ks := 0) dX12_readsCondition_75 ok_X12_opens w_X12_177 i_X12_opens s_X12_opens rfl (by decide) rfl (Nat.lt_of_lt_of_le (by decide) hN) rfl rfl rfl (Nat.le_of_ble_eq_true rfl) (Nat.le_of_ble_eq_true rfl) (by omega) (m_opens1 (d := 0) (k := k) (x := 13) (K := K) (q := q2) (by omega) hN hR (by omega) p2 (fun I3 f3 p3 => ?_))
        refine E_zN_ne (a := 1) (tgt := 40) dX12_readsCondition_78 (by decide) (by decide) (fun cw78 => ?_) (fun cw78 => absurd cw78 (by omega))
        exact hlh (by show k + (1 + nop K) = 6; omega) I3 (f2.trans f3) p3
    · intro k K q2 hk5 hi c1 hop hk I2 f2 p2
      obtain ⟨i1, i2, i3, i4, i5⟩ := id hi
      refine E_aload_n dX12_readsCondition_40 rfl ?_
      refine E_callV (As := []) (ci := 11) (kc' := 0) (ks' := 0) (kc := 0) (ks := 0) dX12_readsCondition_41 ok_X12_here w_X12_142 i_X12_here s_X12_here rfl (by decide) rfl (Nat.lt_of_lt_of_le (by decide) hN) rfl rfl rfl (Nat.le_of_ble_eq_true rfl) (Nat.le_of_ble_eq_true rfl) (by omega) (m_here (d := 0) hN hR hc (Nat.le_trans hL (by decide)) (hC.keep f2).1 (hC.keep f2).2 (p := q2.1) (by omega) p2.1 ?_)
      refine E_bp (nI 33) dX12_readsCondition_44 (by decide) ?_
      refine E_icmp_eq (tgt := 58) dX12_readsCondition_46 (by decide) (fun cw46 => by first | exact absurd cw46 ((fun z => c1 (Or.inl ((ch_eq (k := 33) (by decide)).mp z)))) | exact absurd ((fun z => c1 (Or.inl ((ch_eq (k := 33) (by decide)).mp z)))) cw46) (fun cw46 => ?_)
      refine E_aload_n dX12_readsCondition_49 rfl ?_
      refine E_callV (As := []) (ci := 11) (kc' := 0) (ks' := 0) (kc := 0) (ks := 0) dX12_readsCondition_50 ok_X12_here w_X12_142 i_X12_here s_X12_here rfl (by decide) rfl (Nat.lt_of_lt_of_le (by decide) hN) rfl rfl rfl (Nat.le_of_ble_eq_true rfl) (Nat.le_of_ble_eq_true rfl) (by omega) (m_here (d := 0) hN hR hc (Nat.le_trans hL (by decide)) (hC.keep f2).1 (hC.keep f2).2 (p := q2.1) (by omega) p2.1 ?_)
      refine E_bp (nI 40) dX12_readsCondition_53 (by decide) ?_
      refine E_icmp_ne (tgt := 83) dX12_readsCondition_55 (by decide) (fun cw55 => ?_) (fun cw55 => by first | exact absurd cw55 ((fun z => c1 (Or.inr ((ch_eq (k := 40) (by decide)).mp z)))) | exact absurd ((fun z => c1 (Or.inr ((ch_eq (k := 40) (by decide)).mp z)))) cw55)
      refine E_aload_n dX12_readsCondition_83 rfl ?_
      refine E_callV (As := []) (ci := 11) (kc' := 0) (ks' := 0) (kc := 0) (ks := 0) dX12_readsCondition_84 ok_X12_readsCompared w_X12_207 i_X12_readsCompared s_X12_readsCompared rfl (by decide) rfl (Nat.lt_of_lt_of_le (by decide) hN) rfl rfl rfl (Nat.le_of_ble_eq_true rfl) (Nat.le_of_ble_eq_true rfl) (by omega) (m_readsCompared (d := 5) (k := k) (K := K) (q := q2) (by decide) hN hR hc hL hk5 hk hi (hC.keep f2) p2 ?_)
      cases hcp : cpL c k q2 with
      | inl x =>
        rw [hcp] at hop
        intro I3 f3 e3
        refine E_zN_ne (a := 0) (tgt := 92) dX12_readsCondition_87 (by decide) (by decide) (fun cw87 => absurd cw87 (by omega)) (fun cw87 => ?_)
        refine E_ic (nI 0) dX12_readsCondition_90 (by decide) ?_
        exact E_zret dX12_readsCondition_91 rfl (by decide) (hop I3 (f2.trans f3) e3)
      | inr r =>
        rw [hcp] at hop
        intro I3 f3 p3
        refine E_zN_ne (a := 1) (tgt := 92) dX12_readsCondition_87 (by decide) (by decide) (fun cw87 => ?_) (fun cw87 => absurd cw87 (by omega))
        exact hop ((ep_nop K k r).trans hk) I3 (f2.trans f3) p3
    · intro k K q2 K' cd' hi c1 hld hok haf hk I2 f2 p2
      obtain ⟨i1, i2, i3, i4, i5⟩ := id hi
      obtain ⟨d1, d2, d3, d4, d5⟩ := ld_inv (al := true) (s := q2.2.1) (by omega) K q2.2.2 i4 i5
      rw [hld] at d1 d2 d3 d4 d5
      have d2 : 1 + nop K' = nop K := d2
      have d1 : 0 + n10 K' = n10 K := d1
      have d5 : K'.length + 1 ≤ K.length := d5
      by_cases hne : K' = []
      · subst hne
        have d2 : 1 + 0 = nop K := d2
        refine E_aload_n dX12_readsCondition_92 rfl ?_
        refine E_callV (As := []) (ci := 11) (kc' := 0) (ks' := 0) (kc := 0) (ks := 0) dX12_readsCondition_93 ok_X12_here w_X12_142 i_X12_here s_X12_here rfl (by decide) rfl (Nat.lt_of_lt_of_le (by decide) hN) rfl rfl rfl (Nat.le_of_ble_eq_true rfl) (Nat.le_of_ble_eq_true rfl) (by omega) (m_here (d := 0) hN hR hc (Nat.le_trans hL (by decide)) (hC.keep f2).1 (hC.keep f2).2 (p := q2.1) (by omega) p2.1 ?_)
        refine E_bp (nI 41) dX12_readsCondition_96 (by decide) ?_
        refine E_icmp_ne (tgt := 152) dX12_readsCondition_98 (by decide) (fun cw98 => by first | exact absurd cw98 ((ch_eq (k := 41) (by decide)).mpr c1) | exact absurd ((ch_eq (k := 41) (by decide)).mpr c1) cw98) (fun cw98 => ?_)
        refine E_aload_n dX12_readsCondition_101 rfl ?_
        refine E_ic (nI 1) dX12_readsCondition_102 (by decide) ?_
        refine E_callV (As := [_]) (ci := 11) (kc' := 0) (ks' := 0) (kc := 0) (ks := 0) dX12_readsCondition_103 ok_X12_lands w_X12_210 i_X12_lands s_X12_lands rfl (by decide) rfl (Nat.lt_of_lt_of_le (by decide) hN) rfl rfl rfl (Nat.le_of_ble_eq_true rfl) (Nat.le_of_ble_eq_true rfl) (by omega) (m_lands1 (d := 1) (k := k) (p := q2.1) (s := q2.2.1) (by decide) hN hR (by omega) K q2.2.2 I2 i4 (by omega) i5 p2 (fun I3 f3 p3 => ?_))
        rw [hld] at p3
        have p3 : PLm k ((13, 0) :: ([] : WK)) (q2.1, q2.2.1, cd') I3 := p3
        refine E_aload_n dX12_readsCondition_106 rfl ?_
        refine E_aload_n dX12_readsCondition_107 rfl ?_
        refine E_getI dX12_readsCondition_108 f_X12_167 rfl (Nat.lt_of_lt_of_le (by decide) hN) rfl ?_
        refine E.top (p3.2.2.2.2.1) ?_
        refine E_ic (nI 1) dX12_readsCondition_111 (by decide) ?_
        refine E_isub dX12_readsCondition_112 ?_
        refine E.top (pk_sub (a := 0 + 1) (b := 1) (by omega)) ?_
        refine E.top (congrArg nI (show 0 + 1 - 1 = 0 from rfl)) ?_
        refine E_putI dX12_readsCondition_113 f_X12_167 rfl (Nat.lt_of_lt_of_le (by decide) hN) rfl ?_
        refine E_aload_n dX12_readsCondition_116 rfl ?_
        refine E_aload_n dX12_readsCondition_117 rfl ?_
        refine E_getI dX12_readsCondition_118 f_X12_164 rfl (Nat.lt_of_lt_of_le (by decide) hN) rfl ?_
        refine E.top (p3.pop.2.2.2.1) ?_
        refine E_ic (nI 1) dX12_readsCondition_121 (by decide) ?_
        refine E_isub dX12_readsCondition_122 ?_
        refine E.top (pk_sub (a := 6 - k) (b := 1) (by omega)) ?_
        refine E.top (congrArg nI (show 6 - k - 1 = 6 - (k + 1) by omega)) ?_
        refine E_putI dX12_readsCondition_123 f_X12_164 rfl (Nat.lt_of_lt_of_le (by decide) hN) rfl ?_
        refine E_aload_n dX12_readsCondition_126 rfl ?_
        refine E_aload_n dX12_readsCondition_127 rfl ?_
        refine E_getI dX12_readsCondition_128 f_X12_136 rfl (Nat.lt_of_lt_of_le (by decide) hN) rfl ?_
        refine E.top ((PLm.op (k2 := k + 1) p3.pop).1) ?_
        refine E_ic (nI 1) dX12_readsCondition_131 (by decide) ?_
        refine E_iadd dX12_readsCondition_132 ?_
        refine E.top (nI_add (q2.1) 1) ?_
        refine E_putI dX12_readsCondition_133 f_X12_136 rfl (Nat.lt_of_lt_of_le (by decide) hN) rfl ?_
        refine E_aload_n dX12_readsCondition_136 rfl ?_
        refine E_getI dX12_readsCondition_137 f_X12_167 rfl (Nat.lt_of_lt_of_le (by decide) hN) rfl ?_
        refine E.top (((PLm.op (k2 := k + 1) p3.pop).at (q2.1 + 1)).2.2.2.2.1) ?_
        refine E_zN_ne (a := 0) (tgt := 145) dX12_readsCondition_140 (by omega) (by decide) (fun cw140 => absurd cw140 (by omega)) (fun cw140 => ?_)
        refine E_ic (nI 1) dX12_readsCondition_143 (by decide) ?_
        exact E_zret dX12_readsCondition_144 rfl (by decide) (hok rfl _ (((f2.trans f3).trans ((FLm.up I3 _ (by decide)).trans (FLm.up _ _ (by decide)))).trans (FLm.up _ _ (by decide))) (by have k5 : k = 5 := (by omega); subst k5; exact (PLm.op (k2 := 5 + 1) p3.pop).at (q2.1 + 1)))
      · have hne2 : K'.length ≠ 0 := fun z => hne (List.length_eq_zero_iff.mp z)
        refine E_aload_n dX12_readsCondition_92 rfl ?_
        refine E_callV (As := []) (ci := 11) (kc' := 0) (ks' := 0) (kc := 0) (ks := 0) dX12_readsCondition_93 ok_X12_here w_X12_142 i_X12_here s_X12_here rfl (by decide) rfl (Nat.lt_of_lt_of_le (by decide) hN) rfl rfl rfl (Nat.le_of_ble_eq_true rfl) (Nat.le_of_ble_eq_true rfl) (by omega) (m_here (d := 0) hN hR hc (Nat.le_trans hL (by decide)) (hC.keep f2).1 (hC.keep f2).2 (p := q2.1) (by omega) p2.1 ?_)
        refine E_bp (nI 41) dX12_readsCondition_96 (by decide) ?_
        refine E_icmp_ne (tgt := 152) dX12_readsCondition_98 (by decide) (fun cw98 => by first | exact absurd cw98 ((ch_eq (k := 41) (by decide)).mpr c1) | exact absurd ((ch_eq (k := 41) (by decide)).mpr c1) cw98) (fun cw98 => ?_)
        refine E_aload_n dX12_readsCondition_101 rfl ?_
        refine E_ic (nI 1) dX12_readsCondition_102 (by decide) ?_
        refine E_callV (As := [_]) (ci := 11) (kc' := 0) (ks' := 0) (kc := 0) (ks := 0) dX12_readsCondition_103 ok_X12_lands w_X12_210 i_X12_lands s_X12_lands rfl (by decide) rfl (Nat.lt_of_lt_of_le (by decide) hN) rfl rfl rfl (Nat.le_of_ble_eq_true rfl) (Nat.le_of_ble_eq_true rfl) (by omega) (m_lands1 (d := 1) (k := k) (p := q2.1) (s := q2.2.1) (by decide) hN hR (by omega) K q2.2.2 I2 i4 (by omega) i5 p2 (fun I3 f3 p3 => ?_))
        rw [hld] at p3
        have p3 : PLm k ((13, 0) :: K') (q2.1, q2.2.1, cd') I3 := p3
        refine E_aload_n dX12_readsCondition_106 rfl ?_
        refine E_aload_n dX12_readsCondition_107 rfl ?_
        refine E_getI dX12_readsCondition_108 f_X12_167 rfl (Nat.lt_of_lt_of_le (by decide) hN) rfl ?_
        refine E.top (p3.2.2.2.2.1) ?_
        refine E_ic (nI 1) dX12_readsCondition_111 (by decide) ?_
        refine E_isub dX12_readsCondition_112 ?_
        refine E.top (pk_sub (a := K'.length + 1) (b := 1) (by omega)) ?_
        refine E.top (congrArg nI (show K'.length + 1 - 1 = K'.length from rfl)) ?_
        refine E_putI dX12_readsCondition_113 f_X12_167 rfl (Nat.lt_of_lt_of_le (by decide) hN) rfl ?_
        refine E_aload_n dX12_readsCondition_116 rfl ?_
        refine E_aload_n dX12_readsCondition_117 rfl ?_
        refine E_getI dX12_readsCondition_118 f_X12_164 rfl (Nat.lt_of_lt_of_le (by decide) hN) rfl ?_
        refine E.top (p3.pop.2.2.2.1) ?_
        refine E_ic (nI 1) dX12_readsCondition_121 (by decide) ?_
        refine E_isub dX12_readsCondition_122 ?_
        refine E.top (pk_sub (a := 6 - k) (b := 1) (by omega)) ?_
        refine E.top (congrArg nI (show 6 - k - 1 = 6 - (k + 1) by omega)) ?_
        refine E_putI dX12_readsCondition_123 f_X12_164 rfl (Nat.lt_of_lt_of_le (by decide) hN) rfl ?_
        refine E_aload_n dX12_readsCondition_126 rfl ?_
        refine E_aload_n dX12_readsCondition_127 rfl ?_
        refine E_getI dX12_readsCondition_128 f_X12_136 rfl (Nat.lt_of_lt_of_le (by decide) hN) rfl ?_
        refine E.top ((PLm.op (k2 := k + 1) p3.pop).1) ?_
        refine E_ic (nI 1) dX12_readsCondition_131 (by decide) ?_
        refine E_iadd dX12_readsCondition_132 ?_
        refine E.top (nI_add (q2.1) 1) ?_
        refine E_putI dX12_readsCondition_133 f_X12_136 rfl (Nat.lt_of_lt_of_le (by decide) hN) rfl ?_
        refine E_aload_n dX12_readsCondition_136 rfl ?_
        refine E_getI dX12_readsCondition_137 f_X12_167 rfl (Nat.lt_of_lt_of_le (by decide) hN) rfl ?_
        refine E.top (((PLm.op (k2 := k + 1) p3.pop).at (q2.1 + 1)).2.2.2.2.1) ?_
        refine E_zN_ne (a := K'.length) (tgt := 145) dX12_readsCondition_140 (by omega) (by decide) (fun cw140 => ?_) (fun cw140 => absurd cw140 (by omega))
        refine E_aload_n dX12_readsCondition_145 rfl ?_
        refine E_callV (As := []) (ci := 11) (kc' := 0) (ks' := 0) (kc := 0) (ks := 0) dX12_readsCondition_146 ok_X12_endsPiece w_X12_204 i_X12_endsPiece s_X12_endsPiece rfl (by decide) rfl (Nat.lt_of_lt_of_le (by decide) hN) rfl rfl rfl (Nat.le_of_ble_eq_true rfl) (Nat.le_of_ble_eq_true rfl) (by omega) (m_endsPiece (d := 1) (by decide) hN hR K' (k + 1) (q2.1 + 1, q2.2.1, cd') _ (okK.v (s := q2.2.1) d3.tl (by omega)) (by omega) (by show q2.2.1 + n10 K' ≤ 250; omega) (by omega) ((PLm.op (k2 := k + 1) p3.pop).at (q2.1 + 1)) (fun I5 f5 p5 => ?_))
        refine E_goto (tgt := 92) dX12_readsCondition_149 (by decide) ?_
        exact haf hne ((ep_nop K' (k + 1) (q2.1 + 1, q2.2.1, cd')).trans (by omega)) I5 ((((f2.trans f3).trans ((FLm.up I3 _ (by decide)).trans (FLm.up _ _ (by decide)))).trans (FLm.up _ _ (by decide))).trans f5) p5
    · intro k K q2 hi c1 c2 c3 hfl hk I2 f2 p2
      obtain ⟨i1, i2, i3, i4, i5⟩ := id hi
      refine E_aload_n dX12_readsCondition_92 rfl ?_
      refine E_callV (As := []) (ci := 11) (kc' := 0) (ks' := 0) (kc := 0) (ks := 0) dX12_readsCondition_93 ok_X12_here w_X12_142 i_X12_here s_X12_here rfl (by decide) rfl (Nat.lt_of_lt_of_le (by decide) hN) rfl rfl rfl (Nat.le_of_ble_eq_true rfl) (Nat.le_of_ble_eq_true rfl) (by omega) (m_here (d := 0) hN hR hc (Nat.le_trans hL (by decide)) (hC.keep f2).1 (hC.keep f2).2 (p := q2.1) (by omega) p2.1 ?_)
      refine E_bp (nI 41) dX12_readsCondition_96 (by decide) ?_
      refine E_icmp_ne (tgt := 152) dX12_readsCondition_98 (by decide) (fun cw98 => ?_) (fun cw98 => by first | exact absurd cw98 ((fun z => c1 ((ch_eq (k := 41) (by decide)).mp z))) | exact absurd ((fun z => c1 ((ch_eq (k := 41) (by decide)).mp z))) cw98)
      refine E_aload_n dX12_readsCondition_152 rfl ?_
      refine E_callV (As := []) (ci := 11) (kc' := 0) (ks' := 0) (kc := 0) (ks := 0) dX12_readsCondition_153 ok_X12_here w_X12_142 i_X12_here s_X12_here rfl (by decide) rfl (Nat.lt_of_lt_of_le (by decide) hN) rfl rfl rfl (Nat.le_of_ble_eq_true rfl) (Nat.le_of_ble_eq_true rfl) (by omega) (m_here (d := 0) hN hR hc (Nat.le_trans hL (by decide)) (hC.keep f2).1 (hC.keep f2).2 (p := q2.1) (by omega) p2.1 ?_)
      refine E_bp (nI 38) dX12_readsCondition_156 (by decide) ?_
      refine E_icmp_eq (tgt := 180) dX12_readsCondition_158 (by decide) (fun cw158 => by first | exact absurd cw158 ((fun z => c3 ((ch_eq (k := 38) (by decide)).mp z))) | exact absurd ((fun z => c3 ((ch_eq (k := 38) (by decide)).mp z))) cw158) (fun cw158 => ?_)
      refine E_aload_n dX12_readsCondition_161 rfl ?_
      refine E_callV (As := []) (ci := 11) (kc' := 0) (ks' := 0) (kc := 0) (ks := 0) dX12_readsCondition_162 ok_X12_here w_X12_142 i_X12_here s_X12_here rfl (by decide) rfl (Nat.lt_of_lt_of_le (by decide) hN) rfl rfl rfl (Nat.le_of_ble_eq_true rfl) (Nat.le_of_ble_eq_true rfl) (by omega) (m_here (d := 0) hN hR hc (Nat.le_trans hL (by decide)) (hC.keep f2).1 (hC.keep f2).2 (p := q2.1) (by omega) p2.1 ?_)
      refine E_bp (nI 124) dX12_readsCondition_165 (by decide) ?_
      refine E_icmp_eq (tgt := 180) dX12_readsCondition_167 (by decide) (fun cw167 => by first | exact absurd cw167 ((fun z => c2 ((ch_eq (k := 124) (by decide)).mp z))) | exact absurd ((fun z => c2 ((ch_eq (k := 124) (by decide)).mp z))) cw167) (fun cw167 => ?_)
      refine E_aload_n dX12_readsCondition_170 rfl ?_
      refine E_ic (nI 1) dX12_readsCondition_171 (by decide) ?_
      refine E_aload_n dX12_readsCondition_172 rfl ?_
      refine E_getI dX12_readsCondition_173 f_X12_136 rfl (Nat.lt_of_lt_of_le (by decide) hN) rfl ?_
      refine E.top (p2.1) ?_
      refine E_callV (As := [_, _]) (ci := 11) (kc' := 0) (ks' := 0) (kc := 0) (ks := 0) dX12_readsCondition_176 ok_X12_wrongAt w_X12_149 i_X12_wrongAt s_X12_wrongAt rfl (by decide) rfl (Nat.lt_of_lt_of_le (by decide) hN) rfl rfl rfl (Nat.le_of_ble_eq_true rfl) (Nat.le_of_ble_eq_true rfl) (by omega) (m_wrongAt (d := 0) (k := 1) (q := q2.1) hN ?_)
      exact E_zret dX12_readsCondition_179 rfl (by decide) (hfl _ (f2.trans (FLm.up I2 _ (by decide))) (up2_s _ _ _ _))
    · intro k K q2 K' cd' hi c1 hld hlh hk I2 f2 p2
      obtain ⟨i1, i2, i3, i4, i5⟩ := id hi
      obtain ⟨d1, d2, d3, d4, d5⟩ := ld_inv (al := true) (s := q2.2.1) (by omega) K q2.2.2 i4 i5
      rw [hld] at d1 d2 d3 d4 d5
      have d2 : nop K' = nop K := d2
      have d5 : K'.length ≤ K.length := d5
      refine E_aload_n dX12_readsCondition_92 rfl ?_
      refine E_callV (As := []) (ci := 11) (kc' := 0) (ks' := 0) (kc := 0) (ks := 0) dX12_readsCondition_93 ok_X12_here w_X12_142 i_X12_here s_X12_here rfl (by decide) rfl (Nat.lt_of_lt_of_le (by decide) hN) rfl rfl rfl (Nat.le_of_ble_eq_true rfl) (Nat.le_of_ble_eq_true rfl) (by omega) (m_here (d := 0) hN hR hc (Nat.le_trans hL (by decide)) (hC.keep f2).1 (hC.keep f2).2 (p := q2.1) (by omega) p2.1 ?_)
      refine E_bp (nI 41) dX12_readsCondition_96 (by decide) ?_
      refine E_icmp_ne (tgt := 152) dX12_readsCondition_98 (by decide) (fun cw98 => ?_) (fun cw98 => by first | exact absurd cw98 ((fun z => by have := (ch_eq (k := 41) (by decide)).mp z; omega)) | exact absurd ((fun z => by have := (ch_eq (k := 41) (by decide)).mp z; omega)) cw98)
      refine E_aload_n dX12_readsCondition_152 rfl ?_
      refine E_callV (As := []) (ci := 11) (kc' := 0) (ks' := 0) (kc := 0) (ks := 0) dX12_readsCondition_153 ok_X12_here w_X12_142 i_X12_here s_X12_here rfl (by decide) rfl (Nat.lt_of_lt_of_le (by decide) hN) rfl rfl rfl (Nat.le_of_ble_eq_true rfl) (Nat.le_of_ble_eq_true rfl) (by omega) (m_here (d := 0) hN hR hc (Nat.le_trans hL (by decide)) (hC.keep f2).1 (hC.keep f2).2 (p := q2.1) (by omega) p2.1 ?_)
      refine E_bp (nI 38) dX12_readsCondition_156 (by decide) ?_
      refine E_icmp_eq (tgt := 180) dX12_readsCondition_158 (by decide) (fun cw158 => by first | exact absurd cw158 ((fun z => by have := (ch_eq (k := 38) (by decide)).mp z; omega)) | exact absurd ((fun z => by have := (ch_eq (k := 38) (by decide)).mp z; omega)) cw158) (fun cw158 => ?_)
      refine E_aload_n dX12_readsCondition_161 rfl ?_
      refine E_callV (As := []) (ci := 11) (kc' := 0) (ks' := 0) (kc := 0) (ks := 0) dX12_readsCondition_162 ok_X12_here w_X12_142 i_X12_here s_X12_here rfl (by decide) rfl (Nat.lt_of_lt_of_le (by decide) hN) rfl rfl rfl (Nat.le_of_ble_eq_true rfl) (Nat.le_of_ble_eq_true rfl) (by omega) (m_here (d := 0) hN hR hc (Nat.le_trans hL (by decide)) (hC.keep f2).1 (hC.keep f2).2 (p := q2.1) (by omega) p2.1 ?_)
      refine E_bp (nI 124) dX12_readsCondition_165 (by decide) ?_
      refine E_icmp_eq (tgt := 180) dX12_readsCondition_167 (by decide) (fun cw167 => ?_) (fun cw167 => by first | exact absurd cw167 ((ch_eq (k := 124) (by decide)).mpr c1) | exact absurd ((ch_eq (k := 124) (by decide)).mpr c1) cw167)
      refine E_aload_n dX12_readsCondition_180 rfl ?_
      refine E_aload_n dX12_readsCondition_181 rfl ?_
      refine E_callV (As := []) (ci := 11) (kc' := 0) (ks' := 0) (kc := 0) (ks := 0) dX12_readsCondition_182 ok_X12_here w_X12_142 i_X12_here s_X12_here rfl (by decide) rfl (Nat.lt_of_lt_of_le (by decide) hN) rfl rfl rfl (Nat.le_of_ble_eq_true rfl) (Nat.le_of_ble_eq_true rfl) (by omega) (m_here (d := 0) hN hR hc (Nat.le_trans hL (by decide)) (hC.keep f2).1 (hC.keep f2).2 (p := q2.1) (by omega) p2.1 ?_)
      refine E_bp (nI 124) dX12_readsCondition_185 (by decide) ?_
      refine E_icmp_ne (tgt := 194) dX12_readsCondition_187 (by decide) (fun cw187 => by first | exact absurd cw187 ((ch_eq (k := 124) (by decide)).mpr c1) | exact absurd ((ch_eq (k := 124) (by decide)).mpr c1) cw187) (fun cw187 => ?_)
      refine E_ic (nI 1) dX12_readsCondition_190 (by decide) ?_
      refine E_goto (tgt := 195) dX12_readsCondition_191 (by decide) ?_
      refine E_callV (As := [_]) (ci := 11) (kc' := 0) (ks' := 0) (kc := 0) (ks := 0) dX12_readsCondition_195 ok_X12_lands w_X12_210 i_X12_lands s_X12_lands rfl (by decide) rfl (Nat.lt_of_lt_of_le (by decide) hN) rfl rfl rfl (Nat.le_of_ble_eq_true rfl) (Nat.le_of_ble_eq_true rfl) (by omega) (m_lands1 (d := 1) (k := k) (p := q2.1) (s := q2.2.1) (by decide) hN hR (by omega) K q2.2.2 I2 i4 (by omega) i5 p2 (fun I3 f3 p3 => ?_))
      rw [hld] at p3
      refine E_aload_n dX12_readsCondition_198 rfl ?_
      refine E_aload_n dX12_readsCondition_199 rfl ?_
      refine E_callV (As := []) (ci := 11) (kc' := 0) (ks' := 0) (kc := 0) (ks := 0) dX12_readsCondition_200 ok_X12_here w_X12_142 i_X12_here s_X12_here rfl (by decide) rfl (Nat.lt_of_lt_of_le (by decide) hN) rfl rfl rfl (Nat.le_of_ble_eq_true rfl) (Nat.le_of_ble_eq_true rfl) (by omega) (m_here (d := 0) hN hR hc (Nat.le_trans hL (by decide)) (hC.keep (f2.trans f3)).1 (hC.keep (f2.trans f3)).2 (p := q2.1) (by omega) p3.1 ?_)
      refine E_bp (nI 38) dX12_readsCondition_203 (by decide) ?_
      refine E_icmp_ne (tgt := 213) dX12_readsCondition_205 (by decide) (fun cw205 => ?_) (fun cw205 => by first | exact absurd cw205 ((fun z => by have := (ch_eq (k := 38) (by decide)).mp z; omega)) | exact absurd ((fun z => by have := (ch_eq (k := 38) (by decide)).mp z; omega)) cw205)
      refine E_bp (nI 12) dX12_readsCondition_213 (by decide) ?_
      refine E_callV (As := [_]) (ci := 11) (kc' := 0) (ks' := 0) (kc := 0) (ks := 0) dX12_readsCondition_215 ok_X12_jumps w_X12_213 i_X12_jumps s_X12_jumps rfl (by decide) rfl (Nat.lt_of_lt_of_le (by decide) hN) rfl rfl rfl (Nat.le_of_ble_eq_true rfl) (Nat.le_of_ble_eq_true rfl) (by omega) (m_jumps (d := 1) (k := k) (op := 12) (K := K') (q := (q2.1, q2.2.1, cd')) (by decide) hN hR (by show q2.2.1 < 260; omega) (by omega) p3 (fun I4 f4 p4 => ?_))
      refine E_goto (tgt := 40) dX12_readsCondition_218 (by decide) ?_
      exact hlh (by show k + (0 + nop K') = 6; omega) I4 ((f2.trans f3).trans f4) p4
    · intro k K q2 K' cd' hi c1 hld hlh hk I2 f2 p2
      obtain ⟨i1, i2, i3, i4, i5⟩ := id hi
      obtain ⟨d1, d2, d3, d4, d5⟩ := ld_inv (al := false) (s := q2.2.1) (by omega) K q2.2.2 i4 i5
      rw [hld] at d1 d2 d3 d4 d5
      have d2 : nop K' = nop K := d2
      have d5 : K'.length ≤ K.length := d5
      refine E_aload_n dX12_readsCondition_92 rfl ?_
      refine E_callV (As := []) (ci := 11) (kc' := 0) (ks' := 0) (kc := 0) (ks := 0) dX12_readsCondition_93 ok_X12_here w_X12_142 i_X12_here s_X12_here rfl (by decide) rfl (Nat.lt_of_lt_of_le (by decide) hN) rfl rfl rfl (Nat.le_of_ble_eq_true rfl) (Nat.le_of_ble_eq_true rfl) (by omega) (m_here (d := 0) hN hR hc (Nat.le_trans hL (by decide)) (hC.keep f2).1 (hC.keep f2).2 (p := q2.1) (by omega) p2.1 ?_)
      refine E_bp (nI 41) dX12_readsCondition_96 (by decide) ?_
      refine E_icmp_ne (tgt := 152) dX12_readsCondition_98 (by decide) (fun cw98 => ?_) (fun cw98 => by first | exact absurd cw98 ((fun z => by have := (ch_eq (k := 41) (by decide)).mp z; omega)) | exact absurd ((fun z => by have := (ch_eq (k := 41) (by decide)).mp z; omega)) cw98)
      refine E_aload_n dX12_readsCondition_152 rfl ?_
      refine E_callV (As := []) (ci := 11) (kc' := 0) (ks' := 0) (kc := 0) (ks := 0) dX12_readsCondition_153 ok_X12_here w_X12_142 i_X12_here s_X12_here rfl (by decide) rfl (Nat.lt_of_lt_of_le (by decide) hN) rfl rfl rfl (Nat.le_of_ble_eq_true rfl) (Nat.le_of_ble_eq_true rfl) (by omega) (m_here (d := 0) hN hR hc (Nat.le_trans hL (by decide)) (hC.keep f2).1 (hC.keep f2).2 (p := q2.1) (by omega) p2.1 ?_)
      refine E_bp (nI 38) dX12_readsCondition_156 (by decide) ?_
      refine E_icmp_eq (tgt := 180) dX12_readsCondition_158 (by decide) (fun cw158 => ?_) (fun cw158 => by first | exact absurd cw158 ((ch_eq (k := 38) (by decide)).mpr c1) | exact absurd ((ch_eq (k := 38) (by decide)).mpr c1) cw158)
      refine E_aload_n dX12_readsCondition_180 rfl ?_
      refine E_aload_n dX12_readsCondition_181 rfl ?_
      refine E_callV (As := []) (ci := 11) (kc' := 0) (ks' := 0) (kc := 0) (ks := 0) dX12_readsCondition_182 ok_X12_here w_X12_142 i_X12_here s_X12_here rfl (by decide) rfl (Nat.lt_of_lt_of_le (by decide) hN) rfl rfl rfl (Nat.le_of_ble_eq_true rfl) (Nat.le_of_ble_eq_true rfl) (by omega) (m_here (d := 0) hN hR hc (Nat.le_trans hL (by decide)) (hC.keep f2).1 (hC.keep f2).2 (p := q2.1) (by omega) p2.1 ?_)
      refine E_bp (nI 124) dX12_readsCondition_185 (by decide) ?_
      refine E_icmp_ne (tgt := 194) dX12_readsCondition_187 (by decide) (fun cw187 => ?_) (fun cw187 => by first | exact absurd cw187 ((fun z => by have := (ch_eq (k := 124) (by decide)).mp z; omega)) | exact absurd ((fun z => by have := (ch_eq (k := 124) (by decide)).mp z; omega)) cw187)
      refine E_ic (nI 0) dX12_readsCondition_194 (by decide) ?_
      refine E_callV (As := [_]) (ci := 11) (kc' := 0) (ks' := 0) (kc := 0) (ks := 0) dX12_readsCondition_195 ok_X12_lands w_X12_210 i_X12_lands s_X12_lands rfl (by decide) rfl (Nat.lt_of_lt_of_le (by decide) hN) rfl rfl rfl (Nat.le_of_ble_eq_true rfl) (Nat.le_of_ble_eq_true rfl) (by omega) (m_lands0 (d := 1) (k := k) (p := q2.1) (s := q2.2.1) (by decide) hN hR (by omega) K q2.2.2 I2 i4 (by omega) i5 p2 (fun I3 f3 p3 => ?_))
      rw [hld] at p3
      refine E_aload_n dX12_readsCondition_198 rfl ?_
      refine E_aload_n dX12_readsCondition_199 rfl ?_
      refine E_callV (As := []) (ci := 11) (kc' := 0) (ks' := 0) (kc := 0) (ks := 0) dX12_readsCondition_200 ok_X12_here w_X12_142 i_X12_here s_X12_here rfl (by decide) rfl (Nat.lt_of_lt_of_le (by decide) hN) rfl rfl rfl (Nat.le_of_ble_eq_true rfl) (Nat.le_of_ble_eq_true rfl) (by omega) (m_here (d := 0) hN hR hc (Nat.le_trans hL (by decide)) (hC.keep (f2.trans f3)).1 (hC.keep (f2.trans f3)).2 (p := q2.1) (by omega) p3.1 ?_)
      refine E_bp (nI 38) dX12_readsCondition_203 (by decide) ?_
      refine E_icmp_ne (tgt := 213) dX12_readsCondition_205 (by decide) (fun cw205 => by first | exact absurd cw205 ((ch_eq (k := 38) (by decide)).mpr c1) | exact absurd ((ch_eq (k := 38) (by decide)).mpr c1) cw205) (fun cw205 => ?_)
      refine E_bp (nI 11) dX12_readsCondition_208 (by decide) ?_
      refine E_goto (tgt := 215) dX12_readsCondition_210 (by decide) ?_
      refine E_callV (As := [_]) (ci := 11) (kc' := 0) (ks' := 0) (kc := 0) (ks := 0) dX12_readsCondition_215 ok_X12_jumps w_X12_213 i_X12_jumps s_X12_jumps rfl (by decide) rfl (Nat.lt_of_lt_of_le (by decide) hN) rfl rfl rfl (Nat.le_of_ble_eq_true rfl) (Nat.le_of_ble_eq_true rfl) (by omega) (m_jumps (d := 1) (k := k) (op := 11) (K := K') (q := (q2.1, q2.2.1, cd')) (by decide) hN hR (by show q2.2.1 < 260; omega) (by omega) p3 (fun I4 f4 p4 => ?_))
      refine E_goto (tgt := 40) dX12_readsCondition_218 (by decide) ?_
      exact hlh (by show k + (0 + nop K') = 6; omega) I4 ((f2.trans f3).trans f4) p4
  by_cases c40 : c q.1 = 40
  · skip
    refine E_aload_n dX12_readsCondition_0 rfl ?_
    refine E_callV (As := []) (ci := 11) (kc' := 0) (ks' := 0) (kc := 0) (ks := 0) dX12_readsCondition_1 ok_X12_here w_X12_142 i_X12_here s_X12_here rfl (by decide) rfl (Nat.lt_of_lt_of_le (by decide) hN) rfl rfl rfl (Nat.le_of_ble_eq_true rfl) (Nat.le_of_ble_eq_true rfl) (by omega) (m_here (d := 0) hN hR hc (Nat.le_trans hL (by decide)) hC.1 hC.2 (p := q.1) (by omega) hP.1 ?_)
    refine E_bp (nI 40) dX12_readsCondition_4 (by decide) ?_
    refine E_icmp_eq (tgt := 19) dX12_readsCondition_6 (by decide) (fun cw6 => ?_) (fun cw6 => by first | exact absurd cw6 ((ch_eq (k := 40) (by decide)).mpr c40) | exact absurd ((ch_eq (k := 40) (by decide)).mpr c40) cw6)
    refine E_aload_n dX12_readsCondition_19 rfl ?_
    refine E_ic (nI 0) dX12_readsCondition_20 (by decide) ?_
    refine E_putI dX12_readsCondition_21 f_X12_164 rfl (Nat.lt_of_lt_of_le (by decide) hN) rfl ?_
    refine E_aload_n dX12_readsCondition_24 rfl ?_
    refine E_ic (nI 0) dX12_readsCondition_25 (by decide) ?_
    refine E_putI dX12_readsCondition_26 f_X12_167 rfl (Nat.lt_of_lt_of_le (by decide) hN) rfl ?_
    refine E_aload_n dX12_readsCondition_29 rfl ?_
    refine E_bp (nI 13) dX12_readsCondition_30 (by decide) ?_
    refine E_callV (As := [_]) (ci := 11) (kc' := 0) (ks' := 0) (kc := 0) (ks := 0) dX12_readsCondition_32 ok_X12_opens w_X12_177 i_X12_opens s_X12_opens rfl (by decide) rfl (Nat.lt_of_lt_of_le (by decide) hN) rfl rfl rfl (Nat.le_of_ble_eq_true rfl) (Nat.le_of_ble_eq_true rfl) (by omega) (m_opens1 (d := 0) (k := 5) (x := 13) (K := []) (q := q) (by decide) hN hR (by decide) (PLm.w0 (PLm.op (k2 := 6) hP)) (fun I3 f3 p3 => ?_))
    refine E_zN_ne (a := 1) (tgt := 40) dX12_readsCondition_35 (by decide) (by decide) (fun cw35 => ?_) (fun cw35 => absurd cw35 (by omega))
    have hp := hc.lt (p := q.1) (by omega)
    have e1 : rcL c q = bnd (chL c 5 (q.1 + 1, q.2)) (psL c 41) := bnd_r (if_pos c40)
    rw [e1] at hQ
    have hok0 : okK q.2.1 [(13, 0)] := fun e he => by
      rcases List.mem_cons.mp he with y | y
      · rw [y]
        exact Or.inl ⟨Or.inr rfl, rfl⟩
      · exact nomatch y
    have hlh := ch_R hc hL H (k := 5) (K := []) (q := (q.1 + 1, q.2)) (by decide) (fun K2 q2 n2 => ts_R hc hL H 5 (by decide) K2 q2 n2) ⟨hp, by show q.2.1 + 0 ≤ q.1 + 1; omega, by show 1 ≤ q.1 + 1; omega, hok0, hcd⟩ (oP_m hQ.o (fun r hr h2 => ⟨fun _ => h2, fun z => absurd rfl z⟩))
    exact hlh rfl I3 (((FLm.up I (nI 0) (by decide)).trans (FLm.up (up2 I 114 12 (nI 0)) (nI 0) (by decide))).trans f3) p3
  · skip
    refine E_aload_n dX12_readsCondition_0 rfl ?_
    refine E_callV (As := []) (ci := 11) (kc' := 0) (ks' := 0) (kc := 0) (ks := 0) dX12_readsCondition_1 ok_X12_here w_X12_142 i_X12_here s_X12_here rfl (by decide) rfl (Nat.lt_of_lt_of_le (by decide) hN) rfl rfl rfl (Nat.le_of_ble_eq_true rfl) (Nat.le_of_ble_eq_true rfl) (by omega) (m_here (d := 0) hN hR hc (Nat.le_trans hL (by decide)) hC.1 hC.2 (p := q.1) (by omega) hP.1 ?_)
    refine E_bp (nI 40) dX12_readsCondition_4 (by decide) ?_
    refine E_icmp_eq (tgt := 19) dX12_readsCondition_6 (by decide) (fun cw6 => by first | exact absurd cw6 ((fun z => c40 ((ch_eq (k := 40) (by decide)).mp z))) | exact absurd ((fun z => c40 ((ch_eq (k := 40) (by decide)).mp z))) cw6) (fun cw6 => ?_)
    refine E_aload_n dX12_readsCondition_9 rfl ?_
    refine E_ic (nI 1) dX12_readsCondition_10 (by decide) ?_
    refine E_aload_n dX12_readsCondition_11 rfl ?_
    refine E_getI dX12_readsCondition_12 f_X12_136 rfl (Nat.lt_of_lt_of_le (by decide) hN) rfl ?_
    refine E.top (hP.1) ?_
    refine E_callV (As := [_, _]) (ci := 11) (kc' := 0) (ks' := 0) (kc := 0) (ks := 0) dX12_readsCondition_15 ok_X12_wrongAt w_X12_149 i_X12_wrongAt s_X12_wrongAt rfl (by decide) rfl (Nat.lt_of_lt_of_le (by decide) hN) rfl rfl rfl (Nat.le_of_ble_eq_true rfl) (Nat.le_of_ble_eq_true rfl) (by omega) (m_wrongAt (d := 0) (k := 1) (q := q.1) hN ?_)
    exact E_zret dX12_readsCondition_18 rfl (by decide) ((show ∀ I2 : IM, FLm I I2 → I2 114 10 = flt 1 q.1 → Q (some (.int 0)) n I2 J R by rw [show rcL c q = .inl (flt 1 q.1) from bnd_l (if_neg c40)] at hQ; exact hQ) _ (FLm.up I _ (by decide)) (up2_s _ _ _ _))
end PLawM6
