/-! ===== the law's factors, as the reference reads them ===== -/
/-- what lies below a sum -/
def stB (B : WK) : Prop := B = [] ∨ ∃ e B', B = e :: B' ∧ 7 ≤ e.1
theorem wk_snoc : ∀ (u : WK), ¬ u = [] → ∃ u' e, u = u' ++ [e]
  | [], h => absurd rfl h
  | [e], _ => ⟨[], e, rfl⟩
  | e :: f :: u, _ => by
    obtain ⟨u', x, h⟩ := wk_snoc (f :: u) (List.cons_ne_nil _ _)
    exact ⟨e :: u', x, by rw [h]; rfl⟩
theorem kn_dig {x : Nat} (h : 48 ≤ x ∧ x ≤ 57) : ¬ knL x < 9 := by
  have key : ∀ x, x < 58 → 48 ≤ x → ¬ knL x < 9 := by decide
  exact key x (by omega) h.1
section PLawM2
variable {g : GL} {d n : Nat} {J : JM} {R : RM} {Q : PQ} {t c : Nat → Nat} {L k : Nat} {B : WK}
set_option maxRecDepth 100000 in
set_option maxHeartbeats 2000000 in
theorem m_closes1 (hd : 1 ≤ d) (hN : 152 ≤ n) (hR : RS R) (hB : stB B) : ∀ (st : WK) (q : TS) (I : IM), q.2.1 + st.length ≤ 250 → (st ++ B).length < 260 → okV (st ++ B) → PLm k (st ++ B) q I → (∀ I2 : IM, FLm I I2 → PLm k ((csR true st q.2).1 ++ B) (q.1, (csR true st q.2).2) I2 → Q none n I2 J R) → E g mX12_closesSums d 0 0 0 [.ref 114, .int (nI 1)] [] n I J R Q := by
  intro st
  induction st with
  | nil =>
    intro q I hs hl hv hP hQ
    have hQ : ∀ I2 : IM, FLm I I2 → PLm k B q I2 → Q none n I2 J R := hQ
    rcases hB with rfl | ⟨e, B', rfl, h7⟩
    · skip
      refine E_aload_n dX12_closesSums_0 rfl ?_
      refine E_callV (As := []) (ci := 11) (kc' := 0) (ks' := 0) (kc := 0) (ks := 0) dX12_closesSums_1 ok_X12_waitTop w_X12_170 i_X12_waitTop s_X12_waitTop rfl (by decide) rfl (Nat.lt_of_lt_of_le (by decide) hN) rfl rfl rfl (Nat.le_of_ble_eq_true rfl) (Nat.le_of_ble_eq_true rfl) (by omega) (m_waitTop (d := 0) (K := []) hN hR hv hl hP ?_)
      refine E_ic (nI 4) dX12_closesSums_4 (by decide) ?_
      refine E_icmp_lt (tgt := 17) dX12_closesSums_5 (by decide) (fun cw5 => ?_) (fun cw5 => by first | exact absurd cw5 ((by decide)) | exact absurd ((by decide)) cw5)
      refine E_iload_n dX12_closesSums_17 rfl ?_
      refine E_zN_eq (a := 1) (tgt := 59) dX12_closesSums_18 (by decide) (by decide) (fun cw18 => absurd cw18 (by omega)) (fun cw18 => ?_)
      refine E_aload_n dX12_closesSums_21 rfl ?_
      refine E_callV (As := []) (ci := 11) (kc' := 0) (ks' := 0) (kc := 0) (ks := 0) dX12_closesSums_22 ok_X12_waitTop w_X12_170 i_X12_waitTop s_X12_waitTop rfl (by decide) rfl (Nat.lt_of_lt_of_le (by decide) hN) rfl rfl rfl (Nat.le_of_ble_eq_true rfl) (Nat.le_of_ble_eq_true rfl) (by omega) (m_waitTop (d := 0) (K := []) hN hR hv hl hP ?_)
      refine E_ic (nI 2) dX12_closesSums_25 (by decide) ?_
      refine E_icmp_eq (tgt := 37) dX12_closesSums_26 (by decide) (fun cw26 => by first | exact absurd cw26 ((by decide)) | exact absurd ((by decide)) cw26) (fun cw26 => ?_)
      refine E_aload_n dX12_closesSums_29 rfl ?_
      refine E_callV (As := []) (ci := 11) (kc' := 0) (ks' := 0) (kc := 0) (ks := 0) dX12_closesSums_30 ok_X12_waitTop w_X12_170 i_X12_waitTop s_X12_waitTop rfl (by decide) rfl (Nat.lt_of_lt_of_le (by decide) hN) rfl rfl rfl (Nat.le_of_ble_eq_true rfl) (Nat.le_of_ble_eq_true rfl) (by omega) (m_waitTop (d := 0) (K := []) hN hR hv hl hP ?_)
      refine E_ic (nI 3) dX12_closesSums_33 (by decide) ?_
      refine E_icmp_ne (tgt := 59) dX12_closesSums_34 (by decide) (fun cw34 => ?_) (fun cw34 => by first | exact absurd cw34 ((by decide)) | exact absurd ((by decide)) cw34)
      exact E_ret dX12_closesSums_59 rfl (hQ I (FLm.refl I) hP)
    · have v1 := (hv e List.mem_cons_self).1
      refine E_aload_n dX12_closesSums_0 rfl ?_
      refine E_callV (As := []) (ci := 11) (kc' := 0) (ks' := 0) (kc := 0) (ks := 0) dX12_closesSums_1 ok_X12_waitTop w_X12_170 i_X12_waitTop s_X12_waitTop rfl (by decide) rfl (Nat.lt_of_lt_of_le (by decide) hN) rfl rfl rfl (Nat.le_of_ble_eq_true rfl) (Nat.le_of_ble_eq_true rfl) (by omega) (m_waitTop (d := 0) (K := e :: B') hN hR hv hl hP ?_)
      refine E_ic (nI 4) dX12_closesSums_4 (by decide) ?_
      refine E_cN_lt (a := e.1) (b := 4) (tgt := 17) dX12_closesSums_5 (by omega) (by decide) (by decide) (fun cw5 => absurd cw5 (by omega)) (fun cw5 => ?_)
      refine E_aload_n dX12_closesSums_8 rfl ?_
      refine E_callV (As := []) (ci := 11) (kc' := 0) (ks' := 0) (kc := 0) (ks := 0) dX12_closesSums_9 ok_X12_waitTop w_X12_170 i_X12_waitTop s_X12_waitTop rfl (by decide) rfl (Nat.lt_of_lt_of_le (by decide) hN) rfl rfl rfl (Nat.le_of_ble_eq_true rfl) (Nat.le_of_ble_eq_true rfl) (by omega) (m_waitTop (d := 0) (K := e :: B') hN hR hv hl hP ?_)
      refine E_bp (nI 6) dX12_closesSums_12 (by decide) ?_
      refine E_cN_le (a := e.1) (b := 6) (tgt := 37) dX12_closesSums_14 (by omega) (by decide) (by decide) (fun cw14 => absurd cw14 (by omega)) (fun cw14 => ?_)
      refine E_iload_n dX12_closesSums_17 rfl ?_
      refine E_zN_eq (a := 1) (tgt := 59) dX12_closesSums_18 (by decide) (by decide) (fun cw18 => absurd cw18 (by omega)) (fun cw18 => ?_)
      refine E_aload_n dX12_closesSums_21 rfl ?_
      refine E_callV (As := []) (ci := 11) (kc' := 0) (ks' := 0) (kc := 0) (ks := 0) dX12_closesSums_22 ok_X12_waitTop w_X12_170 i_X12_waitTop s_X12_waitTop rfl (by decide) rfl (Nat.lt_of_lt_of_le (by decide) hN) rfl rfl rfl (Nat.le_of_ble_eq_true rfl) (Nat.le_of_ble_eq_true rfl) (by omega) (m_waitTop (d := 0) (K := e :: B') hN hR hv hl hP ?_)
      refine E_ic (nI 2) dX12_closesSums_25 (by decide) ?_
      refine E_cN_eq (a := e.1) (b := 2) (tgt := 37) dX12_closesSums_26 (by omega) (by decide) (by decide) (fun cw26 => absurd cw26 (by omega)) (fun cw26 => ?_)
      refine E_aload_n dX12_closesSums_29 rfl ?_
      refine E_callV (As := []) (ci := 11) (kc' := 0) (ks' := 0) (kc := 0) (ks := 0) dX12_closesSums_30 ok_X12_waitTop w_X12_170 i_X12_waitTop s_X12_waitTop rfl (by decide) rfl (Nat.lt_of_lt_of_le (by decide) hN) rfl rfl rfl (Nat.le_of_ble_eq_true rfl) (Nat.le_of_ble_eq_true rfl) (by omega) (m_waitTop (d := 0) (K := e :: B') hN hR hv hl hP ?_)
      refine E_ic (nI 3) dX12_closesSums_33 (by decide) ?_
      refine E_cN_ne (a := e.1) (b := 3) (tgt := 59) dX12_closesSums_34 (by omega) (by decide) (by decide) (fun cw34 => ?_) (fun cw34 => absurd cw34 (by omega))
      exact E_ret dX12_closesSums_59 rfl (hQ I (FLm.refl I) hP)
  | cons e st ih =>
    intro q I hs hl hv hP hQ
    have v1 := (hv e List.mem_cons_self).1
    have hs : q.2.1 + (st.length + 1) ≤ 250 := hs
    have hl : (st ++ B).length + 1 < 260 := hl
    by_cases hcond : (4 ≤ e.1 ∧ e.1 ≤ 6) ∨ (true = true ∧ (e.1 = 2 ∨ e.1 = 3))
    · skip
      refine E_aload_n dX12_closesSums_0 rfl ?_
      refine E_callV (As := []) (ci := 11) (kc' := 0) (ks' := 0) (kc := 0) (ks := 0) dX12_closesSums_1 ok_X12_waitTop w_X12_170 i_X12_waitTop s_X12_waitTop rfl (by decide) rfl (Nat.lt_of_lt_of_le (by decide) hN) rfl rfl rfl (Nat.le_of_ble_eq_true rfl) (Nat.le_of_ble_eq_true rfl) (by omega) (m_waitTop (d := 0) (K := e :: (st ++ B)) hN hR hv hl hP ?_)
      refine E_ic (nI 4) dX12_closesSums_4 (by decide) ?_
      refine E_cN_lt (a := e.1) (b := 4) (tgt := 17) dX12_closesSums_5 (by omega) (by decide) (by decide) (fun cw5 => ?_) (fun cw5 => ?_)
      · refine E_iload_n dX12_closesSums_17 rfl ?_
        refine E_zN_eq (a := 1) (tgt := 59) dX12_closesSums_18 (by decide) (by decide) (fun cw18 => absurd cw18 (by omega)) (fun cw18 => ?_)
        refine E_aload_n dX12_closesSums_21 rfl ?_
        refine E_callV (As := []) (ci := 11) (kc' := 0) (ks' := 0) (kc := 0) (ks := 0) dX12_closesSums_22 ok_X12_waitTop w_X12_170 i_X12_waitTop s_X12_waitTop rfl (by decide) rfl (Nat.lt_of_lt_of_le (by decide) hN) rfl rfl rfl (Nat.le_of_ble_eq_true rfl) (Nat.le_of_ble_eq_true rfl) (by omega) (m_waitTop (d := 0) (K := e :: (st ++ B)) hN hR hv hl hP ?_)
        refine E_ic (nI 2) dX12_closesSums_25 (by decide) ?_
        refine E_cN_eq (a := e.1) (b := 2) (tgt := 37) dX12_closesSums_26 (by omega) (by decide) (by decide) (fun cw26 => ?_) (fun cw26 => ?_)
        · refine E_aload_n dX12_closesSums_37 rfl ?_
          refine E_aload_n dX12_closesSums_38 rfl ?_
          refine E_callV (As := []) (ci := 11) (kc' := 0) (ks' := 0) (kc := 0) (ks := 0) dX12_closesSums_39 ok_X12_waitTop w_X12_170 i_X12_waitTop s_X12_waitTop rfl (by decide) rfl (Nat.lt_of_lt_of_le (by decide) hN) rfl rfl rfl (Nat.le_of_ble_eq_true rfl) (Nat.le_of_ble_eq_true rfl) (by omega) (m_waitTop (d := 0) (K := e :: (st ++ B)) hN hR hv hl hP ?_)
          refine E_ic (nI 0) dX12_closesSums_42 (by decide) ?_
          refine E_callV (As := [_, _]) (ci := 11) (kc' := 0) (ks' := 0) (kc := 0) (ks := 0) dX12_closesSums_43 ok_X12_notes w_X12_173 i_X12_notes s_X12_notes rfl (by decide) rfl (Nat.lt_of_lt_of_le (by decide) hN) rfl rfl rfl (Nat.le_of_ble_eq_true rfl) (Nat.le_of_ble_eq_true rfl) (by omega) (m_notes (d := 0) (op := e.1) (v := 0) (q := q) hN hR (by omega) hP (fun I2 f2 p2 => ?_))
          refine E_aload_n dX12_closesSums_46 rfl ?_
          refine E_aload_n dX12_closesSums_47 rfl ?_
          refine E_getI dX12_closesSums_48 f_X12_167 rfl (Nat.lt_of_lt_of_le (by decide) hN) rfl ?_
          refine E.top (p2.2.2.2.2.1) ?_
          refine E_ic (nI 1) dX12_closesSums_51 (by decide) ?_
          refine E_isub dX12_closesSums_52 ?_
          refine E.top (pk_sub (a := (st ++ B).length + 1) (b := 1) (by omega)) ?_
          refine E.top (congrArg nI (show (st ++ B).length + 1 - 1 = (st ++ B).length from rfl)) ?_
          refine E_putI dX12_closesSums_53 f_X12_167 rfl (Nat.lt_of_lt_of_le (by decide) hN) rfl ?_
          refine E_goto (tgt := 0) dX12_closesSums_56 (by decide) ?_
          have e1 : csR true (e :: st) q.2 = csR true st (q.2.1 + 1, cdU q.2.2 q.2.1 (e.1, 0)) := if_pos hcond
          rw [e1] at hQ
          exact ih (q.1, q.2.1 + 1, cdU q.2.2 q.2.1 (e.1, 0)) _ (by show q.2.1 + 1 + st.length ≤ 250; omega) (by omega) hv.tl p2.pop (fun I3 f3 p3 => hQ I3 ((f2.trans (FLm.up I2 _ (by decide))).trans f3) p3)
        · refine E_aload_n dX12_closesSums_29 rfl ?_
          refine E_callV (As := []) (ci := 11) (kc' := 0) (ks' := 0) (kc := 0) (ks := 0) dX12_closesSums_30 ok_X12_waitTop w_X12_170 i_X12_waitTop s_X12_waitTop rfl (by decide) rfl (Nat.lt_of_lt_of_le (by decide) hN) rfl rfl rfl (Nat.le_of_ble_eq_true rfl) (Nat.le_of_ble_eq_true rfl) (by omega) (m_waitTop (d := 0) (K := e :: (st ++ B)) hN hR hv hl hP ?_)
          refine E_ic (nI 3) dX12_closesSums_33 (by decide) ?_
          refine E_cN_ne (a := e.1) (b := 3) (tgt := 59) dX12_closesSums_34 (by omega) (by decide) (by decide) (fun cw34 => ?_) (fun cw34 => ?_)
          · exact absurd hcond (by omega)
          · refine E_aload_n dX12_closesSums_37 rfl ?_
            refine E_aload_n dX12_closesSums_38 rfl ?_
            refine E_callV (As := []) (ci := 11) (kc' := 0) (ks' := 0) (kc := 0) (ks := 0) dX12_closesSums_39 ok_X12_waitTop w_X12_170 i_X12_waitTop s_X12_waitTop rfl (by decide) rfl (Nat.lt_of_lt_of_le (by decide) hN) rfl rfl rfl (Nat.le_of_ble_eq_true rfl) (Nat.le_of_ble_eq_true rfl) (by omega) (m_waitTop (d := 0) (K := e :: (st ++ B)) hN hR hv hl hP ?_)
            refine E_ic (nI 0) dX12_closesSums_42 (by decide) ?_
            refine E_callV (As := [_, _]) (ci := 11) (kc' := 0) (ks' := 0) (kc := 0) (ks := 0) dX12_closesSums_43 ok_X12_notes w_X12_173 i_X12_notes s_X12_notes rfl (by decide) rfl (Nat.lt_of_lt_of_le (by decide) hN) rfl rfl rfl (Nat.le_of_ble_eq_true rfl) (Nat.le_of_ble_eq_true rfl) (by omega) (m_notes (d := 0) (op := e.1) (v := 0) (q := q) hN hR (by omega) hP (fun I2 f2 p2 => ?_))
            refine E_aload_n dX12_closesSums_46 rfl ?_
            refine E_aload_n dX12_closesSums_47 rfl ?_
            refine E_getI dX12_closesSums_48 f_X12_167 rfl (Nat.lt_of_lt_of_le (by decide) hN) rfl ?_
            refine E.top (p2.2.2.2.2.1) ?_
            refine E_ic (nI 1) dX12_closesSums_51 (by decide) ?_
            refine E_isub dX12_closesSums_52 ?_
            refine E.top (pk_sub (a := (st ++ B).length + 1) (b := 1) (by omega)) ?_
            refine E.top (congrArg nI (show (st ++ B).length + 1 - 1 = (st ++ B).length from rfl)) ?_
            refine E_putI dX12_closesSums_53 f_X12_167 rfl (Nat.lt_of_lt_of_le (by decide) hN) rfl ?_
            refine E_goto (tgt := 0) dX12_closesSums_56 (by decide) ?_
            have e1 : csR true (e :: st) q.2 = csR true st (q.2.1 + 1, cdU q.2.2 q.2.1 (e.1, 0)) := if_pos hcond
            rw [e1] at hQ
            exact ih (q.1, q.2.1 + 1, cdU q.2.2 q.2.1 (e.1, 0)) _ (by show q.2.1 + 1 + st.length ≤ 250; omega) (by omega) hv.tl p2.pop (fun I3 f3 p3 => hQ I3 ((f2.trans (FLm.up I2 _ (by decide))).trans f3) p3)
      · refine E_aload_n dX12_closesSums_8 rfl ?_
        refine E_callV (As := []) (ci := 11) (kc' := 0) (ks' := 0) (kc := 0) (ks := 0) dX12_closesSums_9 ok_X12_waitTop w_X12_170 i_X12_waitTop s_X12_waitTop rfl (by decide) rfl (Nat.lt_of_lt_of_le (by decide) hN) rfl rfl rfl (Nat.le_of_ble_eq_true rfl) (Nat.le_of_ble_eq_true rfl) (by omega) (m_waitTop (d := 0) (K := e :: (st ++ B)) hN hR hv hl hP ?_)
        refine E_bp (nI 6) dX12_closesSums_12 (by decide) ?_
        refine E_cN_le (a := e.1) (b := 6) (tgt := 37) dX12_closesSums_14 (by omega) (by decide) (by decide) (fun cw14 => ?_) (fun cw14 => ?_)
        · refine E_aload_n dX12_closesSums_37 rfl ?_
          refine E_aload_n dX12_closesSums_38 rfl ?_
          refine E_callV (As := []) (ci := 11) (kc' := 0) (ks' := 0) (kc := 0) (ks := 0) dX12_closesSums_39 ok_X12_waitTop w_X12_170 i_X12_waitTop s_X12_waitTop rfl (by decide) rfl (Nat.lt_of_lt_of_le (by decide) hN) rfl rfl rfl (Nat.le_of_ble_eq_true rfl) (Nat.le_of_ble_eq_true rfl) (by omega) (m_waitTop (d := 0) (K := e :: (st ++ B)) hN hR hv hl hP ?_)
          refine E_ic (nI 0) dX12_closesSums_42 (by decide) ?_
          refine E_callV (As := [_, _]) (ci := 11) (kc' := 0) (ks' := 0) (kc := 0) (ks := 0) dX12_closesSums_43 ok_X12_notes w_X12_173 i_X12_notes s_X12_notes rfl (by decide) rfl (Nat.lt_of_lt_of_le (by decide) hN) rfl rfl rfl (Nat.le_of_ble_eq_true rfl) (Nat.le_of_ble_eq_true rfl) (by omega) (m_notes (d := 0) (op := e.1) (v := 0) (q := q) hN hR (by omega) hP (fun I2 f2 p2 => ?_))
          refine E_aload_n dX12_closesSums_46 rfl ?_
          refine E_aload_n dX12_closesSums_47 rfl ?_
          refine E_getI dX12_closesSums_48 f_X12_167 rfl (Nat.lt_of_lt_of_le (by decide) hN) rfl ?_
          refine E.top (p2.2.2.2.2.1) ?_
          refine E_ic (nI 1) dX12_closesSums_51 (by decide) ?_
          refine E_isub dX12_closesSums_52 ?_
          refine E.top (pk_sub (a := (st ++ B).length + 1) (b := 1) (by omega)) ?_
          refine E.top (congrArg nI (show (st ++ B).length + 1 - 1 = (st ++ B).length from rfl)) ?_
          refine E_putI dX12_closesSums_53 f_X12_167 rfl (Nat.lt_of_lt_of_le (by decide) hN) rfl ?_
          refine E_goto (tgt := 0) dX12_closesSums_56 (by decide) ?_
          have e1 : csR true (e :: st) q.2 = csR true st (q.2.1 + 1, cdU q.2.2 q.2.1 (e.1, 0)) := if_pos hcond
          rw [e1] at hQ
          exact ih (q.1, q.2.1 + 1, cdU q.2.2 q.2.1 (e.1, 0)) _ (by show q.2.1 + 1 + st.length ≤ 250; omega) (by omega) hv.tl p2.pop (fun I3 f3 p3 => hQ I3 ((f2.trans (FLm.up I2 _ (by decide))).trans f3) p3)
        · refine E_iload_n dX12_closesSums_17 rfl ?_
          refine E_zN_eq (a := 1) (tgt := 59) dX12_closesSums_18 (by decide) (by decide) (fun cw18 => absurd cw18 (by omega)) (fun cw18 => ?_)
          refine E_aload_n dX12_closesSums_21 rfl ?_
          refine E_callV (As := []) (ci := 11) (kc' := 0) (ks' := 0) (kc := 0) (ks := 0) dX12_closesSums_22 ok_X12_waitTop w_X12_170 i_X12_waitTop s_X12_waitTop rfl (by decide) rfl (Nat.lt_of_lt_of_le (by decide) hN) rfl rfl rfl (Nat.le_of_ble_eq_true rfl) (Nat.le_of_ble_eq_true rfl) (by omega) (m_waitTop (d := 0) (K := e :: (st ++ B)) hN hR hv hl hP ?_)
          refine E_ic (nI 2) dX12_closesSums_25 (by decide) ?_
          refine E_cN_eq (a := e.1) (b := 2) (tgt := 37) dX12_closesSums_26 (by omega) (by decide) (by decide) (fun cw26 => ?_) (fun cw26 => ?_)
          · refine E_aload_n dX12_closesSums_37 rfl ?_
            refine E_aload_n dX12_closesSums_38 rfl ?_
            refine E_callV (As := []) (ci := 11) (kc' := 0) (ks' := 0) (kc := 0) (ks := 0) dX12_closesSums_39 ok_X12_waitTop w_X12_170 i_X12_waitTop s_X12_waitTop rfl (by decide) rfl (Nat.lt_of_lt_of_le (by decide) hN) rfl rfl rfl (Nat.le_of_ble_eq_true rfl) (Nat.le_of_ble_eq_true rfl) (by omega) (m_waitTop (d := 0) (K := e :: (st ++ B)) hN hR hv hl hP ?_)
            refine E_ic (nI 0) dX12_closesSums_42 (by decide) ?_
            refine E_callV (As := [_, _]) (ci := 11) (kc' := 0) (ks' := 0) (kc := 0) (ks := 0) dX12_closesSums_43 ok_X12_notes w_X12_173 i_X12_notes s_X12_notes rfl (by decide) rfl (Nat.lt_of_lt_of_le (by decide) hN) rfl rfl rfl (Nat.le_of_ble_eq_true rfl) (Nat.le_of_ble_eq_true rfl) (by omega) (m_notes (d := 0) (op := e.1) (v := 0) (q := q) hN hR (by omega) hP (fun I2 f2 p2 => ?_))
            refine E_aload_n dX12_closesSums_46 rfl ?_
            refine E_aload_n dX12_closesSums_47 rfl ?_
            refine E_getI dX12_closesSums_48 f_X12_167 rfl (Nat.lt_of_lt_of_le (by decide) hN) rfl ?_
            refine E.top (p2.2.2.2.2.1) ?_
            refine E_ic (nI 1) dX12_closesSums_51 (by decide) ?_
            refine E_isub dX12_closesSums_52 ?_
            refine E.top (pk_sub (a := (st ++ B).length + 1) (b := 1) (by omega)) ?_
            refine E.top (congrArg nI (show (st ++ B).length + 1 - 1 = (st ++ B).length from rfl)) ?_
            refine E_putI dX12_closesSums_53 f_X12_167 rfl (Nat.lt_of_lt_of_le (by decide) hN) rfl ?_
            refine E_goto (tgt := 0) dX12_closesSums_56 (by decide) ?_
            have e1 : csR true (e :: st) q.2 = csR true st (q.2.1 + 1, cdU q.2.2 q.2.1 (e.1, 0)) := if_pos hcond
            rw [e1] at hQ
            exact ih (q.1, q.2.1 + 1, cdU q.2.2 q.2.1 (e.1, 0)) _ (by show q.2.1 + 1 + st.length ≤ 250; omega) (by omega) hv.tl p2.pop (fun I3 f3 p3 => hQ I3 ((f2.trans (FLm.up I2 _ (by decide))).trans f3) p3)
          · refine E_aload_n dX12_closesSums_29 rfl ?_
            refine E_callV (As := []) (ci := 11) (kc' := 0) (ks' := 0) (kc := 0) (ks := 0) dX12_closesSums_30 ok_X12_waitTop w_X12_170 i_X12_waitTop s_X12_waitTop rfl (by decide) rfl (Nat.lt_of_lt_of_le (by decide) hN) rfl rfl rfl (Nat.le_of_ble_eq_true rfl) (Nat.le_of_ble_eq_true rfl) (by omega) (m_waitTop (d := 0) (K := e :: (st ++ B)) hN hR hv hl hP ?_)
            refine E_ic (nI 3) dX12_closesSums_33 (by decide) ?_
            refine E_cN_ne (a := e.1) (b := 3) (tgt := 59) dX12_closesSums_34 (by omega) (by decide) (by decide) (fun cw34 => ?_) (fun cw34 => ?_)
            · exact absurd hcond (by omega)
            · refine E_aload_n dX12_closesSums_37 rfl ?_
              refine E_aload_n dX12_closesSums_38 rfl ?_
              refine E_callV (As := []) (ci := 11) (kc' := 0) (ks' := 0) (kc := 0) (ks := 0) dX12_closesSums_39 ok_X12_waitTop w_X12_170 i_X12_waitTop s_X12_waitTop rfl (by decide) rfl (Nat.lt_of_lt_of_le (by decide) hN) rfl rfl rfl (Nat.le_of_ble_eq_true rfl) (Nat.le_of_ble_eq_true rfl) (by omega) (m_waitTop (d := 0) (K := e :: (st ++ B)) hN hR hv hl hP ?_)
              refine E_ic (nI 0) dX12_closesSums_42 (by decide) ?_
              refine E_callV (As := [_, _]) (ci := 11) (kc' := 0) (ks' := 0) (kc := 0) (ks := 0) dX12_closesSums_43 ok_X12_notes w_X12_173 i_X12_notes s_X12_notes rfl (by decide) rfl (Nat.lt_of_lt_of_le (by decide) hN) rfl rfl rfl (Nat.le_of_ble_eq_true rfl) (Nat.le_of_ble_eq_true rfl) (by omega) (m_notes (d := 0) (op := e.1) (v := 0) (q := q) hN hR (by omega) hP (fun I2 f2 p2 => ?_))
              refine E_aload_n dX12_closesSums_46 rfl ?_
              refine E_aload_n dX12_closesSums_47 rfl ?_
              refine E_getI dX12_closesSums_48 f_X12_167 rfl (Nat.lt_of_lt_of_le (by decide) hN) rfl ?_
              refine E.top (p2.2.2.2.2.1) ?_
              refine E_ic (nI 1) dX12_closesSums_51 (by decide) ?_
              refine E_isub dX12_closesSums_52 ?_
              refine E.top (pk_sub (a := (st ++ B).length + 1) (b := 1) (by omega)) ?_
              refine E.top (congrArg nI (show (st ++ B).length + 1 - 1 = (st ++ B).length from rfl)) ?_
              refine E_putI dX12_closesSums_53 f_X12_167 rfl (Nat.lt_of_lt_of_le (by decide) hN) rfl ?_
              refine E_goto (tgt := 0) dX12_closesSums_56 (by decide) ?_
              have e1 : csR true (e :: st) q.2 = csR true st (q.2.1 + 1, cdU q.2.2 q.2.1 (e.1, 0)) := if_pos hcond
              rw [e1] at hQ
              exact ih (q.1, q.2.1 + 1, cdU q.2.2 q.2.1 (e.1, 0)) _ (by show q.2.1 + 1 + st.length ≤ 250; omega) (by omega) hv.tl p2.pop (fun I3 f3 p3 => hQ I3 ((f2.trans (FLm.up I2 _ (by decide))).trans f3) p3)
    · have hQ : ∀ I2 : IM, FLm I I2 → PLm k (e :: st ++ B) q I2 → Q none n I2 J R := by
        rw [show csR true (e :: st) q.2 = (e :: st, q.2) from if_neg hcond] at hQ
        exact hQ
      refine E_aload_n dX12_closesSums_0 rfl ?_
      refine E_callV (As := []) (ci := 11) (kc' := 0) (ks' := 0) (kc := 0) (ks := 0) dX12_closesSums_1 ok_X12_waitTop w_X12_170 i_X12_waitTop s_X12_waitTop rfl (by decide) rfl (Nat.lt_of_lt_of_le (by decide) hN) rfl rfl rfl (Nat.le_of_ble_eq_true rfl) (Nat.le_of_ble_eq_true rfl) (by omega) (m_waitTop (d := 0) (K := e :: (st ++ B)) hN hR hv hl hP ?_)
      refine E_ic (nI 4) dX12_closesSums_4 (by decide) ?_
      refine E_cN_lt (a := e.1) (b := 4) (tgt := 17) dX12_closesSums_5 (by omega) (by decide) (by decide) (fun cw5 => ?_) (fun cw5 => ?_)
      · refine E_iload_n dX12_closesSums_17 rfl ?_
        refine E_zN_eq (a := 1) (tgt := 59) dX12_closesSums_18 (by decide) (by decide) (fun cw18 => absurd cw18 (by omega)) (fun cw18 => ?_)
        refine E_aload_n dX12_closesSums_21 rfl ?_
        refine E_callV (As := []) (ci := 11) (kc' := 0) (ks' := 0) (kc := 0) (ks := 0) dX12_closesSums_22 ok_X12_waitTop w_X12_170 i_X12_waitTop s_X12_waitTop rfl (by decide) rfl (Nat.lt_of_lt_of_le (by decide) hN) rfl rfl rfl (Nat.le_of_ble_eq_true rfl) (Nat.le_of_ble_eq_true rfl) (by omega) (m_waitTop (d := 0) (K := e :: (st ++ B)) hN hR hv hl hP ?_)
        refine E_ic (nI 2) dX12_closesSums_25 (by decide) ?_
        refine E_cN_eq (a := e.1) (b := 2) (tgt := 37) dX12_closesSums_26 (by omega) (by decide) (by decide) (fun cw26 => ?_) (fun cw26 => ?_)
        · exact absurd (by first | exact Or.inl ⟨by omega, by omega⟩ | exact Or.inr ⟨rfl, by omega⟩) hcond
        · refine E_aload_n dX12_closesSums_29 rfl ?_
          refine E_callV (As := []) (ci := 11) (kc' := 0) (ks' := 0) (kc := 0) (ks := 0) dX12_closesSums_30 ok_X12_waitTop w_X12_170 i_X12_waitTop s_X12_waitTop rfl (by decide) rfl (Nat.lt_of_lt_of_le (by decide) hN) rfl rfl rfl (Nat.le_of_ble_eq_true rfl) (Nat.le_of_ble_eq_true rfl) (by omega) (m_waitTop (d := 0) (K := e :: (st ++ B)) hN hR hv hl hP ?_)
          refine E_ic (nI 3) dX12_closesSums_33 (by decide) ?_
          refine E_cN_ne (a := e.1) (b := 3) (tgt := 59) dX12_closesSums_34 (by omega) (by decide) (by decide) (fun cw34 => ?_) (fun cw34 => ?_)
          · exact E_ret dX12_closesSums_59 rfl (hQ I (FLm.refl I) hP)
          · exact absurd (by first | exact Or.inl ⟨by omega, by omega⟩ | exact Or.inr ⟨rfl, by omega⟩) hcond
      · refine E_aload_n dX12_closesSums_8 rfl ?_
        refine E_callV (As := []) (ci := 11) (kc' := 0) (ks' := 0) (kc := 0) (ks := 0) dX12_closesSums_9 ok_X12_waitTop w_X12_170 i_X12_waitTop s_X12_waitTop rfl (by decide) rfl (Nat.lt_of_lt_of_le (by decide) hN) rfl rfl rfl (Nat.le_of_ble_eq_true rfl) (Nat.le_of_ble_eq_true rfl) (by omega) (m_waitTop (d := 0) (K := e :: (st ++ B)) hN hR hv hl hP ?_)
        refine E_bp (nI 6) dX12_closesSums_12 (by decide) ?_
        refine E_cN_le (a := e.1) (b := 6) (tgt := 37) dX12_closesSums_14 (by omega) (by decide) (by decide) (fun cw14 => ?_) (fun cw14 => ?_)
        · exact absurd (by first | exact Or.inl ⟨by omega, by omega⟩ | exact Or.inr ⟨rfl, by omega⟩) hcond
        · refine E_iload_n dX12_closesSums_17 rfl ?_
          refine E_zN_eq (a := 1) (tgt := 59) dX12_closesSums_18 (by decide) (by decide) (fun cw18 => absurd cw18 (by omega)) (fun cw18 => ?_)
          refine E_aload_n dX12_closesSums_21 rfl ?_
          refine E_callV (As := []) (ci := 11) (kc' := 0) (ks' := 0) (kc := 0) (ks := 0) dX12_closesSums_22 ok_X12_waitTop w_X12_170 i_X12_waitTop s_X12_waitTop rfl (by decide) rfl (Nat.lt_of_lt_of_le (by decide) hN) rfl rfl rfl (Nat.le_of_ble_eq_true rfl) (Nat.le_of_ble_eq_true rfl) (by omega) (m_waitTop (d := 0) (K := e :: (st ++ B)) hN hR hv hl hP ?_)
          refine E_ic (nI 2) dX12_closesSums_25 (by decide) ?_
          refine E_cN_eq (a := e.1) (b := 2) (tgt := 37) dX12_closesSums_26 (by omega) (by decide) (by decide) (fun cw26 => ?_) (fun cw26 => ?_)
          · exact absurd (by first | exact Or.inl ⟨by omega, by omega⟩ | exact Or.inr ⟨rfl, by omega⟩) hcond
          · refine E_aload_n dX12_closesSums_29 rfl ?_
            refine E_callV (As := []) (ci := 11) (kc' := 0) (ks' := 0) (kc := 0) (ks := 0) dX12_closesSums_30 ok_X12_waitTop w_X12_170 i_X12_waitTop s_X12_waitTop rfl (by decide) rfl (Nat.lt_of_lt_of_le (by decide) hN) rfl rfl rfl (Nat.le_of_ble_eq_true rfl) (Nat.le_of_ble_eq_true rfl) (by omega) (m_waitTop (d := 0) (K := e :: (st ++ B)) hN hR hv hl hP ?_)
            refine E_ic (nI 3) dX12_closesSums_33 (by decide) ?_
            refine E_cN_ne (a := e.1) (b := 3) (tgt := 59) dX12_closesSums_34 (by omega) (by decide) (by decide) (fun cw34 => ?_) (fun cw34 => ?_)
            · exact E_ret dX12_closesSums_59 rfl (hQ I (FLm.refl I) hP)
            · exact absurd (by first | exact Or.inl ⟨by omega, by omega⟩ | exact Or.inr ⟨rfl, by omega⟩) hcond
set_option maxRecDepth 100000 in
set_option maxHeartbeats 2000000 in
theorem m_closes0 (hd : 1 ≤ d) (hN : 152 ≤ n) (hR : RS R) (hB : stB B) : ∀ (st : WK) (q : TS) (I : IM), q.2.1 + st.length ≤ 250 → (st ++ B).length < 260 → okV (st ++ B) → PLm k (st ++ B) q I → (∀ I2 : IM, FLm I I2 → PLm k ((csR false st q.2).1 ++ B) (q.1, (csR false st q.2).2) I2 → Q none n I2 J R) → E g mX12_closesSums d 0 0 0 [.ref 114, .int (nI 0)] [] n I J R Q := by
  intro st
  induction st with
  | nil =>
    intro q I hs hl hv hP hQ
    have hQ : ∀ I2 : IM, FLm I I2 → PLm k B q I2 → Q none n I2 J R := hQ
    rcases hB with rfl | ⟨e, B', rfl, h7⟩
    · skip
      refine E_aload_n dX12_closesSums_0 rfl ?_
      refine E_callV (As := []) (ci := 11) (kc' := 0) (ks' := 0) (kc := 0) (ks := 0) dX12_closesSums_1 ok_X12_waitTop w_X12_170 i_X12_waitTop s_X12_waitTop rfl (by decide) rfl (Nat.lt_of_lt_of_le (by decide) hN) rfl rfl rfl (Nat.le_of_ble_eq_true rfl) (Nat.le_of_ble_eq_true rfl) (by omega) (m_waitTop (d := 0) (K := []) hN hR hv hl hP ?_)
      refine E_ic (nI 4) dX12_closesSums_4 (by decide) ?_
      refine E_icmp_lt (tgt := 17) dX12_closesSums_5 (by decide) (fun cw5 => ?_) (fun cw5 => by first | exact absurd cw5 ((by decide)) | exact absurd ((by decide)) cw5)
      refine E_iload_n dX12_closesSums_17 rfl ?_
      refine E_zN_eq (a := 0) (tgt := 59) dX12_closesSums_18 (by decide) (by decide) (fun cw18 => ?_) (fun cw18 => absurd cw18 (by omega))
      exact E_ret dX12_closesSums_59 rfl (hQ I (FLm.refl I) hP)
    · have v1 := (hv e List.mem_cons_self).1
      refine E_aload_n dX12_closesSums_0 rfl ?_
      refine E_callV (As := []) (ci := 11) (kc' := 0) (ks' := 0) (kc := 0) (ks := 0) dX12_closesSums_1 ok_X12_waitTop w_X12_170 i_X12_waitTop s_X12_waitTop rfl (by decide) rfl (Nat.lt_of_lt_of_le (by decide) hN) rfl rfl rfl (Nat.le_of_ble_eq_true rfl) (Nat.le_of_ble_eq_true rfl) (by omega) (m_waitTop (d := 0) (K := e :: B') hN hR hv hl hP ?_)
      refine E_ic (nI 4) dX12_closesSums_4 (by decide) ?_
      refine E_cN_lt (a := e.1) (b := 4) (tgt := 17) dX12_closesSums_5 (by omega) (by decide) (by decide) (fun cw5 => absurd cw5 (by omega)) (fun cw5 => ?_)
      refine E_aload_n dX12_closesSums_8 rfl ?_
      refine E_callV (As := []) (ci := 11) (kc' := 0) (ks' := 0) (kc := 0) (ks := 0) dX12_closesSums_9 ok_X12_waitTop w_X12_170 i_X12_waitTop s_X12_waitTop rfl (by decide) rfl (Nat.lt_of_lt_of_le (by decide) hN) rfl rfl rfl (Nat.le_of_ble_eq_true rfl) (Nat.le_of_ble_eq_true rfl) (by omega) (m_waitTop (d := 0) (K := e :: B') hN hR hv hl hP ?_)
      refine E_bp (nI 6) dX12_closesSums_12 (by decide) ?_
      refine E_cN_le (a := e.1) (b := 6) (tgt := 37) dX12_closesSums_14 (by omega) (by decide) (by decide) (fun cw14 => absurd cw14 (by omega)) (fun cw14 => ?_)
      refine E_iload_n dX12_closesSums_17 rfl ?_
      refine E_zN_eq (a := 0) (tgt := 59) dX12_closesSums_18 (by decide) (by decide) (fun cw18 => ?_) (fun cw18 => absurd cw18 (by omega))
      exact E_ret dX12_closesSums_59 rfl (hQ I (FLm.refl I) hP)
  | cons e st ih =>
    intro q I hs hl hv hP hQ
    have v1 := (hv e List.mem_cons_self).1
    have hs : q.2.1 + (st.length + 1) ≤ 250 := hs
    have hl : (st ++ B).length + 1 < 260 := hl
    by_cases hcond : (4 ≤ e.1 ∧ e.1 ≤ 6) ∨ (false = true ∧ (e.1 = 2 ∨ e.1 = 3))
    · skip
      refine E_aload_n dX12_closesSums_0 rfl ?_
      refine E_callV (As := []) (ci := 11) (kc' := 0) (ks' := 0) (kc := 0) (ks := 0) dX12_closesSums_1 ok_X12_waitTop w_X12_170 i_X12_waitTop s_X12_waitTop rfl (by decide) rfl (Nat.lt_of_lt_of_le (by decide) hN) rfl rfl rfl (Nat.le_of_ble_eq_true rfl) (Nat.le_of_ble_eq_true rfl) (by omega) (m_waitTop (d := 0) (K := e :: (st ++ B)) hN hR hv hl hP ?_)
      refine E_ic (nI 4) dX12_closesSums_4 (by decide) ?_
      refine E_cN_lt (a := e.1) (b := 4) (tgt := 17) dX12_closesSums_5 (by omega) (by decide) (by decide) (fun cw5 => ?_) (fun cw5 => ?_)
      · refine E_iload_n dX12_closesSums_17 rfl ?_
        refine E_zN_eq (a := 0) (tgt := 59) dX12_closesSums_18 (by decide) (by decide) (fun cw18 => ?_) (fun cw18 => absurd cw18 (by omega))
        exact absurd hcond (by intro z; rcases z with z | z; omega; exact absurd z.1 (by decide))
      · refine E_aload_n dX12_closesSums_8 rfl ?_
        refine E_callV (As := []) (ci := 11) (kc' := 0) (ks' := 0) (kc := 0) (ks := 0) dX12_closesSums_9 ok_X12_waitTop w_X12_170 i_X12_waitTop s_X12_waitTop rfl (by decide) rfl (Nat.lt_of_lt_of_le (by decide) hN) rfl rfl rfl (Nat.le_of_ble_eq_true rfl) (Nat.le_of_ble_eq_true rfl) (by omega) (m_waitTop (d := 0) (K := e :: (st ++ B)) hN hR hv hl hP ?_)
        refine E_bp (nI 6) dX12_closesSums_12 (by decide) ?_
        refine E_cN_le (a := e.1) (b := 6) (tgt := 37) dX12_closesSums_14 (by omega) (by decide) (by decide) (fun cw14 => ?_) (fun cw14 => ?_)
        · refine E_aload_n dX12_closesSums_37 rfl ?_
          refine E_aload_n dX12_closesSums_38 rfl ?_
          refine E_callV (As := []) (ci := 11) (kc' := 0) (ks' := 0) (kc := 0) (ks := 0) dX12_closesSums_39 ok_X12_waitTop w_X12_170 i_X12_waitTop s_X12_waitTop rfl (by decide) rfl (Nat.lt_of_lt_of_le (by decide) hN) rfl rfl rfl (Nat.le_of_ble_eq_true rfl) (Nat.le_of_ble_eq_true rfl) (by omega) (m_waitTop (d := 0) (K := e :: (st ++ B)) hN hR hv hl hP ?_)
          refine E_ic (nI 0) dX12_closesSums_42 (by decide) ?_
          refine E_callV (As := [_, _]) (ci := 11) (kc' := 0) (ks' := 0) (kc := 0) (ks := 0) dX12_closesSums_43 ok_X12_notes w_X12_173 i_X12_notes s_X12_notes rfl (by decide) rfl (Nat.lt_of_lt_of_le (by decide) hN) rfl rfl rfl (Nat.le_of_ble_eq_true rfl) (Nat.le_of_ble_eq_true rfl) (by omega) (m_notes (d := 0) (op := e.1) (v := 0) (q := q) hN hR (by omega) hP (fun I2 f2 p2 => ?_))
          refine E_aload_n dX12_closesSums_46 rfl ?_
          refine E_aload_n dX12_closesSums_47 rfl ?_
          refine E_getI dX12_closesSums_48 f_X12_167 rfl (Nat.lt_of_lt_of_le (by decide) hN) rfl ?_
          refine E.top (p2.2.2.2.2.1) ?_
          refine E_ic (nI 1) dX12_closesSums_51 (by decide) ?_
          refine E_isub dX12_closesSums_52 ?_
          refine E.top (pk_sub (a := (st ++ B).length + 1) (b := 1) (by omega)) ?_
          refine E.top (congrArg nI (show (st ++ B).length + 1 - 1 = (st ++ B).length from rfl)) ?_
          refine E_putI dX12_closesSums_53 f_X12_167 rfl (Nat.lt_of_lt_of_le (by decide) hN) rfl ?_
          refine E_goto (tgt := 0) dX12_closesSums_56 (by decide) ?_
          have e1 : csR false (e :: st) q.2 = csR false st (q.2.1 + 1, cdU q.2.2 q.2.1 (e.1, 0)) := if_pos hcond
          rw [e1] at hQ
          exact ih (q.1, q.2.1 + 1, cdU q.2.2 q.2.1 (e.1, 0)) _ (by show q.2.1 + 1 + st.length ≤ 250; omega) (by omega) hv.tl p2.pop (fun I3 f3 p3 => hQ I3 ((f2.trans (FLm.up I2 _ (by decide))).trans f3) p3)
        · refine E_iload_n dX12_closesSums_17 rfl ?_
          refine E_zN_eq (a := 0) (tgt := 59) dX12_closesSums_18 (by decide) (by decide) (fun cw18 => ?_) (fun cw18 => absurd cw18 (by omega))
          exact absurd hcond (by intro z; rcases z with z | z; omega; exact absurd z.1 (by decide))
    · have hQ : ∀ I2 : IM, FLm I I2 → PLm k (e :: st ++ B) q I2 → Q none n I2 J R := by
        rw [show csR false (e :: st) q.2 = (e :: st, q.2) from if_neg hcond] at hQ
        exact hQ
      refine E_aload_n dX12_closesSums_0 rfl ?_
      refine E_callV (As := []) (ci := 11) (kc' := 0) (ks' := 0) (kc := 0) (ks := 0) dX12_closesSums_1 ok_X12_waitTop w_X12_170 i_X12_waitTop s_X12_waitTop rfl (by decide) rfl (Nat.lt_of_lt_of_le (by decide) hN) rfl rfl rfl (Nat.le_of_ble_eq_true rfl) (Nat.le_of_ble_eq_true rfl) (by omega) (m_waitTop (d := 0) (K := e :: (st ++ B)) hN hR hv hl hP ?_)
      refine E_ic (nI 4) dX12_closesSums_4 (by decide) ?_
      refine E_cN_lt (a := e.1) (b := 4) (tgt := 17) dX12_closesSums_5 (by omega) (by decide) (by decide) (fun cw5 => ?_) (fun cw5 => ?_)
      · refine E_iload_n dX12_closesSums_17 rfl ?_
        refine E_zN_eq (a := 0) (tgt := 59) dX12_closesSums_18 (by decide) (by decide) (fun cw18 => ?_) (fun cw18 => absurd cw18 (by omega))
        exact E_ret dX12_closesSums_59 rfl (hQ I (FLm.refl I) hP)
      · refine E_aload_n dX12_closesSums_8 rfl ?_
        refine E_callV (As := []) (ci := 11) (kc' := 0) (ks' := 0) (kc := 0) (ks := 0) dX12_closesSums_9 ok_X12_waitTop w_X12_170 i_X12_waitTop s_X12_waitTop rfl (by decide) rfl (Nat.lt_of_lt_of_le (by decide) hN) rfl rfl rfl (Nat.le_of_ble_eq_true rfl) (Nat.le_of_ble_eq_true rfl) (by omega) (m_waitTop (d := 0) (K := e :: (st ++ B)) hN hR hv hl hP ?_)
        refine E_bp (nI 6) dX12_closesSums_12 (by decide) ?_
        refine E_cN_le (a := e.1) (b := 6) (tgt := 37) dX12_closesSums_14 (by omega) (by decide) (by decide) (fun cw14 => ?_) (fun cw14 => ?_)
        · exact absurd (by first | exact Or.inl ⟨by omega, by omega⟩ | exact Or.inr ⟨rfl, by omega⟩) hcond
        · refine E_iload_n dX12_closesSums_17 rfl ?_
          refine E_zN_eq (a := 0) (tgt := 59) dX12_closesSums_18 (by decide) (by decide) (fun cw18 => ?_) (fun cw18 => absurd cw18 (by omega))
          exact E_ret dX12_closesSums_59 rfl (hQ I (FLm.refl I) hP)
set_option maxRecDepth 100000 in
set_option maxHeartbeats 2000000 in
theorem m_number {fr s : Nat} {cd : CDE} (hd : 2 ≤ d) (hN : 152 ≤ n) (hR : RS R) (hc : okc t L c) (hL : L ≤ 240) {K : WK} : ∀ (e i p v : Nat) (I : IM), i + e = 5 → p = fr + i → p ≤ L → CLm t L I → PLm k K (p, s, cd) I → I 114 11 = nI v → (48 ≤ c (dgL c e p v).1 ∧ c (dgL c e p v).1 ≤ 57 → ∀ I2 : IM, FLm I I2 → I2 114 10 = flt 2 (dgL c e p v).1 → Q (some (.int 0)) n I2 J R) → (¬ (48 ≤ c (dgL c e p v).1 ∧ c (dgL c e p v).1 ≤ 57) → ∀ I2 : IM, FLm I I2 → PLm k K ((dgL c e p v).1, s, cd) I2 → I2 114 11 = nI (dgL c e p v).2 → Q (some (.int 1)) n I2 J R) → E g mX12_readsNumber d 0 0 10 [.ref 114, .int (nI fr)] [] n I J R Q := by
  intro e
  induction e with
  | zero =>
    intro i p v I hie hpf hp hC hP h11 hQ0 hQ1
    have hQ0 : 48 ≤ c p ∧ c p ≤ 57 → ∀ I2 : IM, FLm I I2 → I2 114 10 = flt 2 p → Q (some (.int 0)) n I2 J R := hQ0
    have hQ1 : ¬ (48 ≤ c p ∧ c p ≤ 57) → ∀ I2 : IM, FLm I I2 → PLm k K (p, s, cd) I2 → I2 114 11 = nI v → Q (some (.int 1)) n I2 J R := hQ1
    refine E_aload_n dX12_readsNumber_10 rfl ?_
    refine E_callV (As := []) (ci := 11) (kc' := 0) (ks' := 0) (kc := 0) (ks := 0) dX12_readsNumber_11 ok_X12_isDigit w_X12_156 i_X12_isDigit s_X12_isDigit rfl (by decide) rfl (Nat.lt_of_lt_of_le (by decide) hN) rfl rfl rfl (Nat.le_of_ble_eq_true rfl) (Nat.le_of_ble_eq_true rfl) (by omega) (m_isDigitL (d := 0) hN hR hc hL hC (p := p) (by omega) hP.1 (fun y48 y57 => ?_) (fun yn => ?_))
    · skip
      refine E_zN_eq (a := 1) (tgt := 69) dX12_readsNumber_14 (by decide) (by decide) (fun cw14 => absurd cw14 (by omega)) (fun cw14 => ?_)
      refine E_aload_n dX12_readsNumber_17 rfl ?_
      refine E_getI dX12_readsNumber_18 f_X12_136 rfl (Nat.lt_of_lt_of_le (by decide) hN) rfl ?_
      refine E.top (hP.1) ?_
      refine E_iload_n dX12_readsNumber_21 rfl ?_
      refine E_ic (nI 5) dX12_readsNumber_22 (by decide) ?_
      refine E_iadd dX12_readsNumber_23 ?_
      refine E.top (nI_add fr 5) ?_
      refine E_cN_ne (a := p) (b := fr + 5) (tgt := 37) dX12_readsNumber_24 (by omega) (by omega) (by decide) (fun cw24 => absurd cw24 (by omega)) (fun cw24 => ?_)
      refine E_aload_n dX12_readsNumber_27 rfl ?_
      refine E_ic (nI 2) dX12_readsNumber_28 (by decide) ?_
      refine E_aload_n dX12_readsNumber_29 rfl ?_
      refine E_getI dX12_readsNumber_30 f_X12_136 rfl (Nat.lt_of_lt_of_le (by decide) hN) rfl ?_
      refine E.top (hP.1) ?_
      refine E_callV (As := [_, _]) (ci := 11) (kc' := 0) (ks' := 0) (kc := 0) (ks := 0) dX12_readsNumber_33 ok_X12_wrongAt w_X12_149 i_X12_wrongAt s_X12_wrongAt rfl (by decide) rfl (Nat.lt_of_lt_of_le (by decide) hN) rfl rfl rfl (Nat.le_of_ble_eq_true rfl) (Nat.le_of_ble_eq_true rfl) (by omega) (m_wrongAt (d := 0) (k := 2) (q := p) hN ?_)
      exact E_zret dX12_readsNumber_36 rfl (by decide) (hQ0 ⟨y48, y57⟩ _ (FLm.up I _ (by decide)) (up2_s _ _ _ _))
    · skip
      refine E_zN_eq (a := 0) (tgt := 69) dX12_readsNumber_14 (by decide) (by decide) (fun cw14 => ?_) (fun cw14 => absurd cw14 (by omega))
      refine E_ic (nI 1) dX12_readsNumber_69 (by decide) ?_
      exact E_zret dX12_readsNumber_70 rfl (by decide) (hQ1 yn I (FLm.refl I) hP h11)
  | succ e ih =>
    intro i p v I hie hpf hp hC hP h11 hQ0 hQ1
    refine E_aload_n dX12_readsNumber_10 rfl ?_
    refine E_callV (As := []) (ci := 11) (kc' := 0) (ks' := 0) (kc := 0) (ks := 0) dX12_readsNumber_11 ok_X12_isDigit w_X12_156 i_X12_isDigit s_X12_isDigit rfl (by decide) rfl (Nat.lt_of_lt_of_le (by decide) hN) rfl rfl rfl (Nat.le_of_ble_eq_true rfl) (Nat.le_of_ble_eq_true rfl) (by omega) (m_isDigitL (d := 0) hN hR hc hL hC (p := p) (by omega) hP.1 (fun y48 y57 => ?_) (fun yn => ?_))
    · skip
      refine E_zN_eq (a := 1) (tgt := 69) dX12_readsNumber_14 (by decide) (by decide) (fun cw14 => absurd cw14 (by omega)) (fun cw14 => ?_)
      refine E_aload_n dX12_readsNumber_17 rfl ?_
      refine E_getI dX12_readsNumber_18 f_X12_136 rfl (Nat.lt_of_lt_of_le (by decide) hN) rfl ?_
      refine E.top (hP.1) ?_
      refine E_iload_n dX12_readsNumber_21 rfl ?_
      refine E_ic (nI 5) dX12_readsNumber_22 (by decide) ?_
      refine E_iadd dX12_readsNumber_23 ?_
      refine E.top (nI_add fr 5) ?_
      refine E_cN_ne (a := p) (b := fr + 5) (tgt := 37) dX12_readsNumber_24 (by omega) (by omega) (by decide) (fun cw24 => ?_) (fun cw24 => absurd cw24 (by omega))
      refine E_aload_n dX12_readsNumber_37 rfl ?_
      refine E_bp (nI 10) dX12_readsNumber_38 (by decide) ?_
      refine E_aload_n dX12_readsNumber_40 rfl ?_
      refine E_getI dX12_readsNumber_41 f_X12_153 rfl (Nat.lt_of_lt_of_le (by decide) hN) rfl ?_
      refine E.top (h11) ?_
      refine E_imul dX12_readsNumber_44 ?_
      refine E.top (pk_mul 10 v) ?_
      refine E_aload_n dX12_readsNumber_45 rfl ?_
      refine E_callV (As := []) (ci := 11) (kc' := 0) (ks' := 0) (kc := 0) (ks := 0) dX12_readsNumber_46 ok_X12_here w_X12_142 i_X12_here s_X12_here rfl (by decide) rfl (Nat.lt_of_lt_of_le (by decide) hN) rfl rfl rfl (Nat.le_of_ble_eq_true rfl) (Nat.le_of_ble_eq_true rfl) (by omega) (m_here (d := 0) hN hR hc (Nat.le_trans hL (by decide)) hC.1 hC.2 (p := p) (by omega) (hP.1) ?_)
      refine E_iadd dX12_readsNumber_49 ?_
      refine E_bp (nI 48) dX12_readsNumber_50 (by decide) ?_
      refine E_isub dX12_readsNumber_52 ?_
      refine E.top (show nI (10 * v) + chI (c p) - nI 48 = nI (v * 10 + (c p - 48)) by rw [show chI (c p) = nI (c p) from if_pos (by omega), nI_add, pk_sub (by omega)]; congr 1; omega) ?_
      refine E_putI dX12_readsNumber_53 f_X12_153 rfl (Nat.lt_of_lt_of_le (by decide) hN) rfl ?_
      refine E_aload_n dX12_readsNumber_56 rfl ?_
      refine E_aload_n dX12_readsNumber_57 rfl ?_
      refine E_getI dX12_readsNumber_58 f_X12_136 rfl (Nat.lt_of_lt_of_le (by decide) hN) rfl ?_
      refine E.top ((up2_k _ _ (by decide)).trans hP.1) ?_
      refine E_ic (nI 1) dX12_readsNumber_61 (by decide) ?_
      refine E_iadd dX12_readsNumber_62 ?_
      refine E.top (nI_add p 1) ?_
      refine E_putI dX12_readsNumber_63 f_X12_136 rfl (Nat.lt_of_lt_of_le (by decide) hN) rfl ?_
      refine E_goto (tgt := 10) dX12_readsNumber_66 (by decide) ?_
      have e1 : dgL c (e + 1) p v = dgL c e (p + 1) (v * 10 + (c p - 48)) := if_pos ⟨y48, y57⟩
      rw [e1] at hQ0 hQ1
      have hp2 := hc.lt (p := p) (by omega)
      exact ih (i + 1) (p + 1) (v * 10 + (c p - 48)) _ (by omega) (by omega) hp2 (hC.keep ((FLm.up I _ (by decide)).trans (FLm.up _ _ (by decide)))) ((hP.f _ (by decide)).at (p + 1)) ((up2_k _ _ (by decide)).trans (up2_s _ _ _ _)) (fun z I2 f2 => hQ0 z I2 (((FLm.up I _ (by decide)).trans (FLm.up _ _ (by decide))).trans f2)) (fun z I2 f2 => hQ1 z I2 (((FLm.up I _ (by decide)).trans (FLm.up _ _ (by decide))).trans f2))
    · skip
      refine E_zN_eq (a := 0) (tgt := 69) dX12_readsNumber_14 (by decide) (by decide) (fun cw14 => ?_) (fun cw14 => absurd cw14 (by omega))
      refine E_ic (nI 1) dX12_readsNumber_69 (by decide) ?_
      exact E_zret dX12_readsNumber_70 rfl (by decide) (by rw [show dgL c (e + 1) p v = (p, v) from if_neg yn] at hQ1; exact hQ1 yn I (FLm.refl I) hP h11)
set_option maxRecDepth 100000 in
set_option maxHeartbeats 2000000 in
theorem m_readsNumber {q : TS} {I : IM} {K : WK} (hd : 2 ≤ d) (hN : 152 ≤ n) (hR : RS R) (hc : okc t L c) (hL : L ≤ 240) (hC : CLm t L I) (hq : q.1 ≤ L) (hP : PLm k K q I) (hQ0 : 48 ≤ c (dgL c 5 q.1 0).1 ∧ c (dgL c 5 q.1 0).1 ≤ 57 → ∀ I2 : IM, FLm I I2 → I2 114 10 = flt 2 (dgL c 5 q.1 0).1 → Q (some (.int 0)) n I2 J R) (hQ1 : ¬ (48 ≤ c (dgL c 5 q.1 0).1 ∧ c (dgL c 5 q.1 0).1 ≤ 57) → ∀ I2 : IM, FLm I I2 → PLm k K ((dgL c 5 q.1 0).1, q.2.1, q.2.2) I2 → I2 114 11 = nI (dgL c 5 q.1 0).2 → Q (some (.int 1)) n I2 J R) : E g mX12_readsNumber d 0 0 0 (ent 2 [.ref 114]) [] n I J R Q := by
  refine E_aload_n dX12_readsNumber_0 rfl ?_
  refine E_getI dX12_readsNumber_1 f_X12_136 rfl (Nat.lt_of_lt_of_le (by decide) hN) rfl ?_
  refine E.top (hP.1) ?_
  refine E_istore_n dX12_readsNumber_4 (Nat.le_of_ble_eq_true rfl) ?_
  refine E_aload_n dX12_readsNumber_5 rfl ?_
  refine E_ic (nI 0) dX12_readsNumber_6 (by decide) ?_
  refine E_putI dX12_readsNumber_7 f_X12_153 rfl (Nat.lt_of_lt_of_le (by decide) hN) rfl ?_
  exact m_number (fr := q.1) (s := q.2.1) (cd := q.2.2) hd hN hR hc hL 5 0 q.1 0 _ rfl rfl hq (hC.keep (FLm.up I _ (by decide))) (hP.f _ (by decide)) (up2_s _ _ _ _) (fun z I2 f2 => hQ0 z I2 ((FLm.up I _ (by decide)).trans f2)) (fun z I2 f2 => hQ1 z I2 ((FLm.up I _ (by decide)).trans f2))
set_option maxRecDepth 100000 in
set_option maxHeartbeats 2000000 in
theorem m_hasOpen {st : WK} {q : TS} {I : IM} (hN : 152 ≤ n) (hR : RS R) (hl : (st ++ B).length < 260) (hV : okV (st ++ B)) (hP : PLm k (st ++ B) q I) (ht : ¬ no14 st → Q (some (.int 1)) n I J R) (hf : no14 st → Q (some (.int 0)) n I J R) : E g mX12_hasOpenSum d 0 0 0 (ent 3 [.ref 114, .int (nI B.length)]) [] n I J R Q := by
  have key : ∀ (m : Nat) (u v : WK), u.length = m → st = u ++ v → no14 v → E g mX12_hasOpenSum d 0 0 2 [.ref 114, .int (nI (B.length)), .int (nI (v.length + B.length))] [] n I J R Q := by
    intro m
    induction m with
    | zero =>
      intro u v hm hst hv
      have hu : u = [] := List.length_eq_zero_iff.mp hm
      have hst2 : st = v := by rw [hst, hu, List.nil_append]
      have hlv : (st ++ B).length = v.length + B.length := by rw [hst2]; exact List.length_append
      refine E_iload_n dX12_hasOpenSum_2 rfl ?_
      refine E_aload_n dX12_hasOpenSum_3 rfl ?_
      refine E_getI dX12_hasOpenSum_4 f_X12_167 rfl (Nat.lt_of_lt_of_le (by decide) hN) rfl ?_
      refine E.top (hP.2.2.2.2.1) ?_
      refine E_cN_ge (a := v.length + B.length) (b := (st ++ B).length) (tgt := 32) dX12_hasOpenSum_7 (by omega) (by omega) (by decide) (fun cw7 => ?_) (fun cw7 => absurd cw7 (by omega))
      refine E_ic (nI 0) dX12_hasOpenSum_32 (by decide) ?_
      exact E_zret dX12_hasOpenSum_33 rfl (by decide) (hf (by rw [hst2]; exact hv))
    | succ m ih =>
      intro u v hm hst hv
      obtain ⟨u', e, rfl⟩ := wk_snoc u (fun z => by rw [z] at hm; cases hm)
      subst hst
      have eK : u' ++ e :: (v ++ B) = u' ++ [e] ++ v ++ B := by simp
      have hlen : (u' ++ [e] ++ v ++ B).length = u'.length + 1 + v.length + B.length := by simp; omega
      obtain ⟨e14, e20⟩ := hV e (by simp)
      have h15 : I 123 (v.length + B.length) = nI (1048576 * e.1 + e.2) := by
        have h16 := SKl.at (u := u') (v := v ++ B) (e := e) (I := I) (by rw [eK]; exact hP.2.2.2.2.2)
        rw [List.length_append] at h16
        exact h16
      refine E_iload_n dX12_hasOpenSum_2 rfl ?_
      refine E_aload_n dX12_hasOpenSum_3 rfl ?_
      refine E_getI dX12_hasOpenSum_4 f_X12_167 rfl (Nat.lt_of_lt_of_le (by decide) hN) rfl ?_
      refine E.top (hP.2.2.2.2.1) ?_
      refine E_cN_ge (a := v.length + B.length) (b := (u' ++ [e] ++ v ++ B).length) (tgt := 32) dX12_hasOpenSum_7 (by omega) (by omega) (by decide) (fun cw7 => absurd cw7 (by omega)) (fun cw7 => ?_)
      refine E_aload_n dX12_hasOpenSum_10 rfl ?_
      refine E_getR dX12_hasOpenSum_11 f_X12_35 rfl (Nat.lt_of_lt_of_le (by decide) hN) rfl (hR _ _ _ rfl) ?_
      refine E_iload_n dX12_hasOpenSum_14 rfl ?_
      refine E_ialdN dX12_hasOpenSum_15 rfl (Nat.lt_of_lt_of_le (by decide) hN) (by omega) ?_
      refine E.top (h15) ?_
      refine E_ldc (nI 1048576) dX12_hasOpenSum_16 k_X12_163 ?_
      refine E_idiv dX12_hasOpenSum_18 (by decide) ?_
      refine E.top (pk_div (a := 1048576 * e.1 + e.2) (d := 1048576) (by omega) (by decide) (by decide)) ?_
      refine E.top (congrArg nI (show (1048576 * e.1 + e.2) / 1048576 = e.1 by omega)) ?_
      refine E_bp (nI 14) dX12_hasOpenSum_19 (by decide) ?_
      refine E_cN_ne (a := e.1) (b := 14) (tgt := 26) dX12_hasOpenSum_21 (by omega) (by decide) (by decide) (fun cw21 => ?_) (fun cw21 => ?_)
      · refine E_incN dX12_hasOpenSum_26 rfl ?_
        refine E_goto (tgt := 2) dX12_hasOpenSum_29 (by decide) ?_
        have hl2 : v.length + B.length + 1 = (e :: v).length + B.length := by show _ = v.length + 1 + B.length; omega
        rw [hl2]
        exact ih u' (e :: v) (by rw [List.length_append] at hm; have : ([e] : WK).length = 1 := rfl; omega) (by simp) (fun x hx => by rcases List.mem_cons.mp hx with rfl | hx; exact cw21; exact hv x hx)
      · refine E_ic (nI 1) dX12_hasOpenSum_24 (by decide) ?_
        exact E_zret dX12_hasOpenSum_25 rfl (by decide) (ht (fun z => z e (by simp) cw21))
  refine E_iload_n dX12_hasOpenSum_0 rfl ?_
  refine E_istore_n dX12_hasOpenSum_1 (Nat.le_of_ble_eq_true rfl) ?_
  have := key st.length st [] rfl (List.append_nil st).symm (fun e he => nomatch he)
  rw [show ([] : WK).length + B.length = B.length from Nat.zero_add _] at this
  exact this
end PLawM2
