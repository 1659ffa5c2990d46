/-! ===== plan: the reference's call, and the pair ===== -/
theorem anP_0 (r : Nat) : anP r (nI 0) = if r = 0 then -3 else nI ((r - 1) / 8) := by
  unfold anP
  rw [if_pos rfl]
theorem anP_1 (r : Nat) : anP r (nI 1) = if r = 0 then -3 else nI ((r - 1) % 8) := by
  unfold anP
  rw [if_neg (show ¬ nI 1 = nI 0 by decide)]
section PPlanM
variable {g : GL} {n : Nat} {I : IM} {J : JM} {R : RM} {Q : PQ} {σ : ST} {q : LWD}
set_option maxRecDepth 100000 in
set_option maxHeartbeats 2000000 in
theorem m_planG {x y w : Int32} (hB : BND σ) (hM : MR σ I) (hN : 152 ≤ n) (hR : RS R) (hg : ¬ gPl σ x y w) (hQ : Q (some (.int (-1))) n I J R) : E g mX12_plan 900 0 0 0 (ent 5 [.ref 114, .int x, .int y, .int w]) [] n I J R Q := by
  by_cases hx : tk σ x
  · obtain ⟨k, hk, rfl, h0⟩ := tk_ex hx
    by_cases hy : rg y 99
    · obtain ⟨y, hy9, rfl⟩ := id hy
      by_cases hw : rg w 1
      · exact absurd ⟨hx, hy, hw⟩ hg
      · skip
        refine E_aload_n dX12_plan_0 rfl ?_
        refine E_iload_n dX12_plan_1 rfl ?_
        refine E_callV (As := [_]) (ci := 11) (kc' := 0) (ks' := 0) (kc := 0) (ks := 0) dX12_plan_2 ok_X12_isTold w_X12_340 i_X12_isTold s_X12_isTold rfl (by decide) rfl (Nat.lt_of_lt_of_le (by decide) hN) rfl rfl rfl (Nat.le_of_ble_eq_true rfl) (Nat.le_of_ble_eq_true rfl) (Nat.le_refl _) (M_isTold (d := 898) hB hM hN hR (fun j hj e hj0 => ?_) (fun z => ?_))
        · skip
          refine E_zN_eq (a := 1) (tgt := 27) dX12_plan_5 (by decide) (by decide) (fun cw5 => absurd cw5 (by omega)) (fun cw5 => ?_)
          refine E_iload_n dX12_plan_8 rfl ?_
          refine E_ic (nI 0) dX12_plan_9 (by decide) ?_
          refine E_bp (nI 99) dX12_plan_10 (by decide) ?_
          refine E_callS (As := [_, _, _]) (kc' := 0) (ks' := 0) (kc := 0) (ks := 0) dX12_plan_12 ok_X12_in w_X12_124 st_X12_in rfl rfl rfl (Nat.le_of_ble_eq_true rfl) (Nat.le_of_ble_eq_true rfl) (Nat.le_refl _) (M_in (x := nI y) (by decide) (by decide) (fun _ _ _ _ => ?_) (fun z => ?_))
          · skip
            refine E_zN_eq (a := 1) (tgt := 27) dX12_plan_15 (by decide) (by decide) (fun cw15 => absurd cw15 (by omega)) (fun cw15 => ?_)
            refine E_iload_n dX12_plan_18 rfl ?_
            refine E_ic (nI 0) dX12_plan_19 (by decide) ?_
            refine E_ic (nI 1) dX12_plan_20 (by decide) ?_
            refine E_callS (As := [_, _, _]) (kc' := 0) (ks' := 0) (kc := 0) (ks := 0) dX12_plan_21 ok_X12_in w_X12_124 st_X12_in rfl rfl rfl (Nat.le_of_ble_eq_true rfl) (Nat.le_of_ble_eq_true rfl) (Nat.le_refl _) (M_in (by decide) (by decide) (fun m q1 q2 q3 => ?_) (fun z => ?_))
            · skip
              exact absurd ⟨m, q2, q3⟩ hw
            · skip
              refine E_zN_ne (a := 0) (tgt := 29) dX12_plan_24 (by decide) (by decide) (fun cw24 => absurd cw24 (by omega)) (fun cw24 => ?_)
              refine E_ic (-1) dX12_plan_27 (by decide) ?_
              exact E_iret dX12_plan_28 rfl (hQ)
          · skip
            exact absurd rfl (z _ (by omega) (by omega))
        · skip
          exact absurd (tk_of hk h0) z
    · skip
      refine E_aload_n dX12_plan_0 rfl ?_
      refine E_iload_n dX12_plan_1 rfl ?_
      refine E_callV (As := [_]) (ci := 11) (kc' := 0) (ks' := 0) (kc := 0) (ks := 0) dX12_plan_2 ok_X12_isTold w_X12_340 i_X12_isTold s_X12_isTold rfl (by decide) rfl (Nat.lt_of_lt_of_le (by decide) hN) rfl rfl rfl (Nat.le_of_ble_eq_true rfl) (Nat.le_of_ble_eq_true rfl) (Nat.le_refl _) (M_isTold (d := 898) hB hM hN hR (fun j hj e hj0 => ?_) (fun z => ?_))
      · skip
        refine E_zN_eq (a := 1) (tgt := 27) dX12_plan_5 (by decide) (by decide) (fun cw5 => absurd cw5 (by omega)) (fun cw5 => ?_)
        refine E_iload_n dX12_plan_8 rfl ?_
        refine E_ic (nI 0) dX12_plan_9 (by decide) ?_
        refine E_bp (nI 99) dX12_plan_10 (by decide) ?_
        refine E_callS (As := [_, _, _]) (kc' := 0) (ks' := 0) (kc := 0) (ks := 0) dX12_plan_12 ok_X12_in w_X12_124 st_X12_in rfl rfl rfl (Nat.le_of_ble_eq_true rfl) (Nat.le_of_ble_eq_true rfl) (Nat.le_refl _) (M_in (by decide) (by decide) (fun m q1 q2 q3 => ?_) (fun z => ?_))
        · skip
          exact absurd ⟨m, q2, q3⟩ hy
        · skip
          refine E_zN_eq (a := 0) (tgt := 27) dX12_plan_15 (by decide) (by decide) (fun cw15 => ?_) (fun cw15 => absurd cw15 (by omega))
          refine E_ic (-1) dX12_plan_27 (by decide) ?_
          exact E_iret dX12_plan_28 rfl (hQ)
      · skip
        exact absurd (tk_of hk h0) z
  · skip
    refine E_aload_n dX12_plan_0 rfl ?_
    refine E_iload_n dX12_plan_1 rfl ?_
    refine E_callV (As := [_]) (ci := 11) (kc' := 0) (ks' := 0) (kc := 0) (ks := 0) dX12_plan_2 ok_X12_isTold w_X12_340 i_X12_isTold s_X12_isTold rfl (by decide) rfl (Nat.lt_of_lt_of_le (by decide) hN) rfl rfl rfl (Nat.le_of_ble_eq_true rfl) (Nat.le_of_ble_eq_true rfl) (Nat.le_refl _) (M_isTold (d := 898) hB hM hN hR (fun j hj e hj0 => ?_) (fun z => ?_))
    · skip
      subst e
      exact absurd (tk_of hj hj0) hx
    · skip
      refine E_zN_eq (a := 0) (tgt := 27) dX12_plan_5 (by decide) (by decide) (fun cw5 => ?_) (fun cw5 => absurd cw5 (by omega))
      refine E_ic (-1) dX12_plan_27 (by decide) ?_
      exact E_iret dX12_plan_28 rfl (hQ)
theorem nI_m1 {a : Nat} (h : a < 2 ^ 31) : ¬ nI a = -1 := fun z => nI_pos h (by rw [z]; decide)
set_option maxRecDepth 100000 in
set_option maxHeartbeats 2000000 in
theorem m_planN {k yy ww : Nat} (hB : BND σ) (hM : MR σ I) (hN : 152 ≤ n) (hR : RS R) (hk : k < 12) (h0 : 0 < σ 0 k 0) (hy : yy ≤ 99) (hww : ww ≤ 1) (hn : noP σ k (nI yy)) (hQ : Q (some (.int (-2))) n I J R) : E g mX12_plan 900 0 0 0 (ent 5 [.ref 114, .int (nI k), .int (nI yy), .int (nI ww)]) [] n I J R Q := by
  have s5 := (hB.1 k hk).2.2.1.2.2.2.2.2.1
  have n4 := (hB.1 k hk).1
  have n5 := (hB.1 k hk).2.2.2
  rcases nxt_ex (f := σ 1 k) (y := nI yy) (σ 0 k 0 - σ 3 k 3) (σ 3 k 3) with ht | ⟨T, t1, t2, eT⟩
  · have ht : tgP σ k (nI yy) = -1 := ht
    refine E_aload_n dX12_plan_0 rfl ?_
    refine E_iload_n dX12_plan_1 rfl ?_
    refine E_callV (As := [_]) (ci := 11) (kc' := 0) (ks' := 0) (kc := 0) (ks := 0) dX12_plan_2 ok_X12_isTold w_X12_340 i_X12_isTold s_X12_isTold rfl (by decide) rfl (Nat.lt_of_lt_of_le (by decide) hN) rfl rfl rfl (Nat.le_of_ble_eq_true rfl) (Nat.le_of_ble_eq_true rfl) (Nat.le_refl _) (M_isTold (d := 898) hB hM hN hR (fun j hj e hj0 => ?_) (fun z => ?_))
    · skip
      refine E_zN_eq (a := 1) (tgt := 27) dX12_plan_5 (by decide) (by decide) (fun cw5 => absurd cw5 (by omega)) (fun cw5 => ?_)
      refine E_iload_n dX12_plan_8 rfl ?_
      refine E_ic (nI 0) dX12_plan_9 (by decide) ?_
      refine E_bp (nI 99) dX12_plan_10 (by decide) ?_
      refine E_callS (As := [_, _, _]) (kc' := 0) (ks' := 0) (kc := 0) (ks := 0) dX12_plan_12 ok_X12_in w_X12_124 st_X12_in rfl rfl rfl (Nat.le_of_ble_eq_true rfl) (Nat.le_of_ble_eq_true rfl) (Nat.le_refl _) (M_in (x := nI yy) (by decide) (by decide) (fun _ _ _ _ => ?_) (fun z => ?_))
      · skip
        refine E_zN_eq (a := 1) (tgt := 27) dX12_plan_15 (by decide) (by decide) (fun cw15 => absurd cw15 (by omega)) (fun cw15 => ?_)
        refine E_iload_n dX12_plan_18 rfl ?_
        refine E_ic (nI 0) dX12_plan_19 (by decide) ?_
        refine E_ic (nI 1) dX12_plan_20 (by decide) ?_
        refine E_callS (As := [_, _, _]) (kc' := 0) (ks' := 0) (kc := 0) (ks := 0) dX12_plan_21 ok_X12_in w_X12_124 st_X12_in rfl rfl rfl (Nat.le_of_ble_eq_true rfl) (Nat.le_of_ble_eq_true rfl) (Nat.le_refl _) (M_in (x := nI ww) (by decide) (by decide) (fun _ _ _ _ => ?_) (fun z => ?_))
        · skip
          refine E_zN_ne (a := 1) (tgt := 29) dX12_plan_24 (by decide) (by decide) (fun cw24 => ?_) (fun cw24 => absurd cw24 (by omega))
          refine E_aload_n dX12_plan_29 rfl ?_
          refine E_iload_n dX12_plan_30 rfl ?_
          refine E_iload_n dX12_plan_31 rfl ?_
          refine E_callV (As := [_, _]) (ci := 11) (kc' := 0) (ks' := 0) (kc := 0) (ks := 0) dX12_plan_32 ok_X12_nextOf w_X12_369 i_X12_nextOf s_X12_nextOf rfl (by decide) rfl (Nat.lt_of_lt_of_le (by decide) hN) rfl rfl rfl (Nat.le_of_ble_eq_true rfl) (Nat.le_of_ble_eq_true rfl) (Nat.le_refl _) (m_nextOf (d := 898) hB hM hN hR hk ?_)
          refine E_istore dX12_plan_35 (Nat.le_of_ble_eq_true rfl) ?_
          refine E_iload dX12_plan_37 rfl ?_
          refine E_ic (-1) dX12_plan_39 (by decide) ?_
          refine E_icmp_eq (tgt := 56) dX12_plan_40 (by decide) (fun cw40 => ?_) (fun cw40 => by first | exact absurd cw40 (ht) | exact absurd (ht) cw40)
          refine E_bp (-2) dX12_plan_56 (by decide) ?_
          exact E_iret dX12_plan_58 rfl (hQ)
        · skip
          exact absurd rfl (z _ (by omega) (by omega))
      · skip
        exact absurd rfl (z _ (by omega) (by omega))
    · skip
      exact absurd (tk_of hk h0) z
  · have eT : tgP σ k (nI yy) = nI T := eT
    have h5 : ¬ σ 3 k 5 = 0 := by
      rcases hn with z | z
      · rw [eT] at z
        exact absurd z (nI_pos (by omega))
      · exact z
    refine E_aload_n dX12_plan_0 rfl ?_
    refine E_iload_n dX12_plan_1 rfl ?_
    refine E_callV (As := [_]) (ci := 11) (kc' := 0) (ks' := 0) (kc := 0) (ks := 0) dX12_plan_2 ok_X12_isTold w_X12_340 i_X12_isTold s_X12_isTold rfl (by decide) rfl (Nat.lt_of_lt_of_le (by decide) hN) rfl rfl rfl (Nat.le_of_ble_eq_true rfl) (Nat.le_of_ble_eq_true rfl) (Nat.le_refl _) (M_isTold (d := 898) hB hM hN hR (fun j hj e hj0 => ?_) (fun z => ?_))
    · skip
      refine E_zN_eq (a := 1) (tgt := 27) dX12_plan_5 (by decide) (by decide) (fun cw5 => absurd cw5 (by omega)) (fun cw5 => ?_)
      refine E_iload_n dX12_plan_8 rfl ?_
      refine E_ic (nI 0) dX12_plan_9 (by decide) ?_
      refine E_bp (nI 99) dX12_plan_10 (by decide) ?_
      refine E_callS (As := [_, _, _]) (kc' := 0) (ks' := 0) (kc := 0) (ks := 0) dX12_plan_12 ok_X12_in w_X12_124 st_X12_in rfl rfl rfl (Nat.le_of_ble_eq_true rfl) (Nat.le_of_ble_eq_true rfl) (Nat.le_refl _) (M_in (x := nI yy) (by decide) (by decide) (fun _ _ _ _ => ?_) (fun z => ?_))
      · skip
        refine E_zN_eq (a := 1) (tgt := 27) dX12_plan_15 (by decide) (by decide) (fun cw15 => absurd cw15 (by omega)) (fun cw15 => ?_)
        refine E_iload_n dX12_plan_18 rfl ?_
        refine E_ic (nI 0) dX12_plan_19 (by decide) ?_
        refine E_ic (nI 1) dX12_plan_20 (by decide) ?_
        refine E_callS (As := [_, _, _]) (kc' := 0) (ks' := 0) (kc := 0) (ks := 0) dX12_plan_21 ok_X12_in w_X12_124 st_X12_in rfl rfl rfl (Nat.le_of_ble_eq_true rfl) (Nat.le_of_ble_eq_true rfl) (Nat.le_refl _) (M_in (x := nI ww) (by decide) (by decide) (fun _ _ _ _ => ?_) (fun z => ?_))
        · skip
          refine E_zN_ne (a := 1) (tgt := 29) dX12_plan_24 (by decide) (by decide) (fun cw24 => ?_) (fun cw24 => absurd cw24 (by omega))
          refine E_aload_n dX12_plan_29 rfl ?_
          refine E_iload_n dX12_plan_30 rfl ?_
          refine E_iload_n dX12_plan_31 rfl ?_
          refine E_callV (As := [_, _]) (ci := 11) (kc' := 0) (ks' := 0) (kc := 0) (ks := 0) dX12_plan_32 ok_X12_nextOf w_X12_369 i_X12_nextOf s_X12_nextOf rfl (by decide) rfl (Nat.lt_of_lt_of_le (by decide) hN) rfl rfl rfl (Nat.le_of_ble_eq_true rfl) (Nat.le_of_ble_eq_true rfl) (Nat.le_refl _) (m_nextOf (d := 898) hB hM hN hR hk ?_)
          refine E.top eT ?_
          refine E_istore dX12_plan_35 (Nat.le_of_ble_eq_true rfl) ?_
          refine E_iload dX12_plan_37 rfl ?_
          refine E_ic (-1) dX12_plan_39 (by decide) ?_
          refine E_icmp_eq (tgt := 56) dX12_plan_40 (by decide) (fun cw40 => by first | exact absurd cw40 (nI_m1 (by omega)) | exact absurd (nI_m1 (by omega)) cw40) (fun cw40 => ?_)
          refine E_aload_n dX12_plan_43 rfl ?_
          refine E_getR dX12_plan_44 f_X12_7 rfl (Nat.lt_of_lt_of_le (by decide) hN) rfl (hR _ _ _ rfl) ?_
          refine E_bp (nI 48) dX12_plan_47 (by decide) ?_
          refine E_iload_n dX12_plan_49 rfl ?_
          refine E_iadd dX12_plan_50 ?_
          refine E.top (nI_add 48 k) ?_
          refine E_ialdN dX12_plan_51 rfl (Nat.lt_of_lt_of_le (by decide) hN) (by first | assumption | omega) ?_
          refine E.top ((hM.2.1.1 k (by first | assumption | omega)).2.2.2.2.1) ?_
          refine E_ic (nI 1) dX12_plan_52 (by decide) ?_
          refine E_cN_ne (a := σ 3 k 5) (b := 1) (tgt := 59) dX12_plan_53 (by omega) (by decide) (by decide) (fun cw53 => absurd cw53 (by omega)) (fun cw53 => ?_)
          refine E_bp (-2) dX12_plan_56 (by decide) ?_
          exact E_iret dX12_plan_58 rfl (hQ)
        · skip
          exact absurd rfl (z _ (by omega) (by omega))
      · skip
        exact absurd rfl (z _ (by omega) (by omega))
    · skip
      exact absurd (tk_of hk h0) z
set_option maxRecDepth 100000 in
set_option maxHeartbeats 2000000 in
theorem m_planS {k yy ww T : Nat} (hB : BND σ) (hM : MR σ I) (hN : 152 ≤ n) (hR : RS R) (hk : k < 12) (h0 : 0 < σ 0 k 0) (hy : yy ≤ 99) (hww : ww ≤ 1) (hq : LWF q) (hl : LMq q I) (eT : tgP σ k (nI yy) = nI T) (hT : T ≤ 24) (h3 : σ 3 k 3 ≤ T) (h5 : σ 3 k 5 = 0) (hQ : ∀ I' : IM, MR σ I' → (∀ a, a < 114 → I' a = I a) → I' 114 16 = I 114 16 → (∀ a, 128 ≤ a → a ≤ 132 → I' a = I a) → Q (some (.int (anP (skQ q σ k T) (nI ww)))) n I' J R) : E g mX12_plan 900 0 0 0 (ent 5 [.ref 114, .int (nI k), .int (nI yy), .int (nI ww)]) [] n I J R Q := by
  have n4 := (hB.1 k hk).1
  have hO : okD (σ 0 k 0) (bgD (σ 3 k) 99) := by
    obtain ⟨a1, a2, ⟨e0, e1, e2, e3, e4, e5, e6, e7⟩, a4⟩ := hB.1 k hk
    exact ⟨e0, e1, e2, a4, e4, e5, e6, e7, Nat.le_refl _, trivial⟩
  have hz4 : ∀ j, (cp I 115 116 75) 140 j = 0 := fun j => (if_neg (fun z => absurd z.1 (by decide))).trans (hM.2.2.2.2.2 j)
  have g5 : ∀ x, x ≠ 116 → (cp I 115 116 75) x = I x := fun x hx => funext fun y => if_neg (fun z => hx z.1)
  have h5b : ∀ y, y < 75 → (cp I 115 116 75) 116 y = I 115 y := fun y hy => (if_pos ⟨rfl, hy⟩)
  have hX4 : MCr k (σ 0 k 0) (σ 1 k) (σ 2 k) q (cp I 115 116 75) := ⟨(congrFun (g5 118 (by decide)) k).trans (hM.1 k hk).1, fun i hi => by rw [g5 119 (by decide), g5 120 (by decide)]; exact (hM.1 k hk).2 i hi, hl.keep (congrFun (g5 114 (by decide)) 16) (fun a a1 a2 => g5 a (by omega))⟩
  have w4 := hM.2.1.1 k hk
  have hD4 : MDr k 0 0 (σ 1 k) (bgD (σ 3 k) 99) (cp I 115 116 75) := ⟨by rw [g5 115 (by decide)]; exact ⟨w4.1, w4.2.1, w4.2.2.1, w4.2.2.2.2.2, w4.2.2.2.1, w4.2.2.2.2.1⟩, fun z => absurd z (by decide)⟩
  rcases (show ww = 0 ∨ ww = 1 by omega) with rfl | rfl
  · skip
    refine E_aload_n dX12_plan_0 rfl ?_
    refine E_iload_n dX12_plan_1 rfl ?_
    refine E_callV (As := [_]) (ci := 11) (kc' := 0) (ks' := 0) (kc := 0) (ks := 0) dX12_plan_2 ok_X12_isTold w_X12_340 i_X12_isTold s_X12_isTold rfl (by decide) rfl (Nat.lt_of_lt_of_le (by decide) hN) rfl rfl rfl (Nat.le_of_ble_eq_true rfl) (Nat.le_of_ble_eq_true rfl) (Nat.le_refl _) (M_isTold (d := 898) hB hM hN hR (fun j hj e hj0 => ?_) (fun z => ?_))
    · skip
      refine E_zN_eq (a := 1) (tgt := 27) dX12_plan_5 (by decide) (by decide) (fun cw5 => absurd cw5 (by omega)) (fun cw5 => ?_)
      refine E_iload_n dX12_plan_8 rfl ?_
      refine E_ic (nI 0) dX12_plan_9 (by decide) ?_
      refine E_bp (nI 99) dX12_plan_10 (by decide) ?_
      refine E_callS (As := [_, _, _]) (kc' := 0) (ks' := 0) (kc := 0) (ks := 0) dX12_plan_12 ok_X12_in w_X12_124 st_X12_in rfl rfl rfl (Nat.le_of_ble_eq_true rfl) (Nat.le_of_ble_eq_true rfl) (Nat.le_refl _) (M_in (x := nI yy) (by decide) (by decide) (fun _ _ _ _ => ?_) (fun z => ?_))
      · skip
        refine E_zN_eq (a := 1) (tgt := 27) dX12_plan_15 (by decide) (by decide) (fun cw15 => absurd cw15 (by omega)) (fun cw15 => ?_)
        refine E_iload_n dX12_plan_18 rfl ?_
        refine E_ic (nI 0) dX12_plan_19 (by decide) ?_
        refine E_ic (nI 1) dX12_plan_20 (by decide) ?_
        refine E_callS (As := [_, _, _]) (kc' := 0) (ks' := 0) (kc := 0) (ks := 0) dX12_plan_21 ok_X12_in w_X12_124 st_X12_in rfl rfl rfl (Nat.le_of_ble_eq_true rfl) (Nat.le_of_ble_eq_true rfl) (Nat.le_refl _) (M_in (x := nI 0) (by decide) (by decide) (fun _ _ _ _ => ?_) (fun z => ?_))
        · skip
          refine E_zN_ne (a := 1) (tgt := 29) dX12_plan_24 (by decide) (by decide) (fun cw24 => ?_) (fun cw24 => absurd cw24 (by omega))
          refine E_aload_n dX12_plan_29 rfl ?_
          refine E_iload_n dX12_plan_30 rfl ?_
          refine E_iload_n dX12_plan_31 rfl ?_
          refine E_callV (As := [_, _]) (ci := 11) (kc' := 0) (ks' := 0) (kc := 0) (ks := 0) dX12_plan_32 ok_X12_nextOf w_X12_369 i_X12_nextOf s_X12_nextOf rfl (by decide) rfl (Nat.lt_of_lt_of_le (by decide) hN) rfl rfl rfl (Nat.le_of_ble_eq_true rfl) (Nat.le_of_ble_eq_true rfl) (Nat.le_refl _) (m_nextOf (d := 898) hB hM hN hR hk ?_)
          refine E.top eT ?_
          refine E_istore dX12_plan_35 (Nat.le_of_ble_eq_true rfl) ?_
          refine E_iload dX12_plan_37 rfl ?_
          refine E_ic (-1) dX12_plan_39 (by decide) ?_
          refine E_icmp_eq (tgt := 56) dX12_plan_40 (by decide) (fun cw40 => by first | exact absurd cw40 (nI_m1 (by omega)) | exact absurd (nI_m1 (by omega)) cw40) (fun cw40 => ?_)
          refine E_aload_n dX12_plan_43 rfl ?_
          refine E_getR dX12_plan_44 f_X12_7 rfl (Nat.lt_of_lt_of_le (by decide) hN) rfl (hR _ _ _ rfl) ?_
          refine E_bp (nI 48) dX12_plan_47 (by decide) ?_
          refine E_iload_n dX12_plan_49 rfl ?_
          refine E_iadd dX12_plan_50 ?_
          refine E.top (nI_add 48 k) ?_
          refine E_ialdN dX12_plan_51 rfl (Nat.lt_of_lt_of_le (by decide) hN) (by first | assumption | omega) ?_
          refine E.top ((hM.2.1.1 k (by first | assumption | omega)).2.2.2.2.1) ?_
          refine E_ic (nI 1) dX12_plan_52 (by decide) ?_
          refine E_cN_ne (a := σ 3 k 5) (b := 1) (tgt := 59) dX12_plan_53 (by omega) (by decide) (by decide) (fun cw53 => ?_) (fun cw53 => absurd cw53 (by omega))
          refine E_aload_n dX12_plan_59 rfl ?_
          refine E_getR dX12_plan_60 f_X12_7 rfl (Nat.lt_of_lt_of_le (by decide) hN) rfl (hR _ _ _ rfl) ?_
          refine E_aload_n dX12_plan_63 rfl ?_
          refine E_getR dX12_plan_64 f_X12_13 rfl (Nat.lt_of_lt_of_le (by decide) hN) rfl (hR _ _ _ rfl) ?_
          refine E_callS (As := [_, _]) (kc' := 0) (ks' := 0) (kc := 0) (ks := 0) dX12_plan_67 ok_X12_copies w_X12_346 st_X12_copies rfl rfl rfl (Nat.le_of_ble_eq_true rfl) (Nat.le_of_ble_eq_true rfl) (Nat.le_refl _) (m_copies rfl rfl (Nat.lt_of_lt_of_le (by decide) hN) (Nat.lt_of_lt_of_le (by decide) hN) (by decide) ?_)
          refine E_aload_n dX12_plan_70 rfl ?_
          refine E_iload_n dX12_plan_71 rfl ?_
          refine E_iload dX12_plan_72 rfl ?_
          refine E_callV (As := [_, _]) (ci := 11) (kc' := 0) (ks' := 0) (kc := 0) (ks := 0) dX12_plan_74 ok_X12_laysPlan w_X12_372 i_X12_laysPlan s_X12_laysPlan rfl (by decide) rfl (Nat.lt_of_lt_of_le (by decide) hN) rfl rfl rfl (Nat.le_of_ble_eq_true rfl) (Nat.le_of_ble_eq_true rfl) (Nat.le_refl _) (m_laysPlan (d := 893) (c0 := 0) (Y := σ 1 k) (S := σ 2 k) (LN := σ 0 k 0) (T := T) (D := bgD (σ 3 k) 99) hN hR hk hq n4 hT hO h5 h3 hX4 hD4 hz4 (fun I6 f6 z6 p6 w6 => ?_))
          refine E_aload_n dX12_plan_77 rfl ?_
          refine E_getR dX12_plan_78 f_X12_13 rfl (Nat.lt_of_lt_of_le (by decide) hN) rfl (hR _ _ _ rfl) ?_
          refine E_aload_n dX12_plan_81 rfl ?_
          refine E_getR dX12_plan_82 f_X12_7 rfl (Nat.lt_of_lt_of_le (by decide) hN) rfl (hR _ _ _ rfl) ?_
          refine E_callS (As := [_, _]) (kc' := 0) (ks' := 0) (kc := 0) (ks := 0) dX12_plan_85 ok_X12_copies w_X12_346 st_X12_copies rfl rfl rfl (Nat.le_of_ble_eq_true rfl) (Nat.le_of_ble_eq_true rfl) (Nat.le_refl _) (m_copies rfl rfl (Nat.lt_of_lt_of_le (by decide) hN) (Nat.lt_of_lt_of_le (by decide) hN) (by decide) ?_)
          refine E_iload_n dX12_plan_88 rfl ?_
          refine E_zN_ne (a := 0) (tgt := 99) dX12_plan_89 (by decide) (by decide) (fun cw89 => absurd cw89 (by omega)) (fun cw89 => ?_)
          refine E_aload_n dX12_plan_92 rfl ?_
          refine E_getI dX12_plan_93 f_X12_360 rfl (Nat.lt_of_lt_of_le (by decide) hN) rfl ?_
          refine E.top ((show cp I6 116 115 75 114 46 = I6 114 46 from if_neg (fun z => absurd z.1 (by decide)))) ?_
          refine E_goto (tgt := 103) dX12_plan_96 (by decide) ?_
          exact E_iret dX12_plan_103 rfl (by
                    have far : ∀ x, x ≠ 114 → x ≠ 115 → x ≠ 116 → x ≠ 133 → x ≠ 134 → x ≠ 139 → x ≠ 140 → x ≠ 141 → cp I6 116 115 75 x = I x := fun x c1 c2 c3 c4 c5 c6 c7 c8 => (show cp I6 116 115 75 x = I6 x from funext fun y => if_neg (fun z => c2 z.1)).trans ((f6.1 x c1 c2 c4 c5 c6 c7 c8).trans (g5 x c3))
                    have f14 : ∀ j, j ≠ 40 → j ≠ 41 → j ≠ 46 → j ≠ 47 → cp I6 116 115 75 114 j = I 114 j := fun j c1 c2 c3 c4 => (show cp I6 116 115 75 114 j = I6 114 j from if_neg (fun z => absurd z.1 (by decide))).trans ((f6.2 j c1 c2 c3 c4).trans (congrFun (g5 114 (by decide)) j))
                    have f15 : ∀ y, y < 75 → cp I6 116 115 75 115 y = I 115 y := fun y hy => (if_pos ⟨rfl, hy⟩).trans ((congrFun (f6.1 116 (by decide) (by decide) (by decide) (by decide) (by decide) (by decide) (by decide)) y).trans (h5b y hy))
                    obtain ⟨m1', ⟨k0, k1, k2, k3⟩, m3, m4, m5, m6⟩ := hM
                    have e8 : skQ q σ k T = (srP (nxP q k (σ 0 k 0) (σ 1 k) (σ 2 k)) (ouP q k (σ 0 k 0) (σ 1 k) (σ 2 k) T) (brP q k (σ 0 k 0) (σ 1 k) (σ 2 k)) (skB (bgD (σ 3 k) 99)) 49500).2 := rfl
                    rw [anP_0, e8, ← p6] at hQ
                    refine hQ _ ⟨fun i hi => ?_, ⟨fun i hi => ?_, ?_, ?_, ?_⟩, fun z => ?_, ⟨?_, ?_⟩, ?_, fun j => ?_⟩ (fun a a1 => far a (by omega) (by omega) (by omega) (by omega) (by omega) (by omega) (by omega) (by omega)) (f14 16 (by decide) (by decide) (by decide) (by decide)) (fun a a1 a2 => far a (by omega) (by omega) (by omega) (by omega) (by omega) (by omega) (by omega) (by omega))
                    · rw [far 118 (by decide) (by decide) (by decide) (by decide) (by decide) (by decide) (by decide) (by decide), far 119 (by decide) (by decide) (by decide) (by decide) (by decide) (by decide) (by decide) (by decide), far 120 (by decide) (by decide) (by decide) (by decide) (by decide) (by decide) (by decide) (by decide)]
                      exact m1' i hi
                    · rw [f15 i (by omega), f15 (12 + i) (by omega), f15 (24 + i) (by omega), f15 (36 + i) (by omega), f15 (48 + i) (by omega), f15 (60 + i) (by omega)]
                      exact k0 i hi
                    · rw [f15 72 (by decide)]
                      exact k1
                    · rw [f15 73 (by decide)]
                      exact k2
                    · rw [f15 74 (by decide)]
                      exact k3
                    · rw [far 117 (by decide) (by decide) (by decide) (by decide) (by decide) (by decide) (by decide) (by decide)]
                      exact m3 z
                    · exact (f14 7 (by decide) (by decide) (by decide) (by decide)).trans m4.1
                    · exact (f14 58 (by decide) (by decide) (by decide) (by decide)).trans m4.2
                    · rw [far 121 (by decide) (by decide) (by decide) (by decide) (by decide) (by decide) (by decide) (by decide)]
                      exact m5
                    · exact (show cp I6 116 115 75 140 j = I6 140 j from if_neg (fun z => absurd z.1 (by decide))).trans (z6 j))
        · skip
          exact absurd rfl (z _ (by omega) (by omega))
      · skip
        exact absurd rfl (z _ (by omega) (by omega))
    · skip
      exact absurd (tk_of hk h0) z
  · skip
    refine E_aload_n dX12_plan_0 rfl ?_
    refine E_iload_n dX12_plan_1 rfl ?_
    refine E_callV (As := [_]) (ci := 11) (kc' := 0) (ks' := 0) (kc := 0) (ks := 0) dX12_plan_2 ok_X12_isTold w_X12_340 i_X12_isTold s_X12_isTold rfl (by decide) rfl (Nat.lt_of_lt_of_le (by decide) hN) rfl rfl rfl (Nat.le_of_ble_eq_true rfl) (Nat.le_of_ble_eq_true rfl) (Nat.le_refl _) (M_isTold (d := 898) hB hM hN hR (fun j hj e hj0 => ?_) (fun z => ?_))
    · skip
      refine E_zN_eq (a := 1) (tgt := 27) dX12_plan_5 (by decide) (by decide) (fun cw5 => absurd cw5 (by omega)) (fun cw5 => ?_)
      refine E_iload_n dX12_plan_8 rfl ?_
      refine E_ic (nI 0) dX12_plan_9 (by decide) ?_
      refine E_bp (nI 99) dX12_plan_10 (by decide) ?_
      refine E_callS (As := [_, _, _]) (kc' := 0) (ks' := 0) (kc := 0) (ks := 0) dX12_plan_12 ok_X12_in w_X12_124 st_X12_in rfl rfl rfl (Nat.le_of_ble_eq_true rfl) (Nat.le_of_ble_eq_true rfl) (Nat.le_refl _) (M_in (x := nI yy) (by decide) (by decide) (fun _ _ _ _ => ?_) (fun z => ?_))
      · skip
        refine E_zN_eq (a := 1) (tgt := 27) dX12_plan_15 (by decide) (by decide) (fun cw15 => absurd cw15 (by omega)) (fun cw15 => ?_)
        refine E_iload_n dX12_plan_18 rfl ?_
        refine E_ic (nI 0) dX12_plan_19 (by decide) ?_
        refine E_ic (nI 1) dX12_plan_20 (by decide) ?_
        refine E_callS (As := [_, _, _]) (kc' := 0) (ks' := 0) (kc := 0) (ks := 0) dX12_plan_21 ok_X12_in w_X12_124 st_X12_in rfl rfl rfl (Nat.le_of_ble_eq_true rfl) (Nat.le_of_ble_eq_true rfl) (Nat.le_refl _) (M_in (x := nI 1) (by decide) (by decide) (fun _ _ _ _ => ?_) (fun z => ?_))
        · skip
          refine E_zN_ne (a := 1) (tgt := 29) dX12_plan_24 (by decide) (by decide) (fun cw24 => ?_) (fun cw24 => absurd cw24 (by omega))
          refine E_aload_n dX12_plan_29 rfl ?_
          refine E_iload_n dX12_plan_30 rfl ?_
          refine E_iload_n dX12_plan_31 rfl ?_
          refine E_callV (As := [_, _]) (ci := 11) (kc' := 0) (ks' := 0) (kc := 0) (ks := 0) dX12_plan_32 ok_X12_nextOf w_X12_369 i_X12_nextOf s_X12_nextOf rfl (by decide) rfl (Nat.lt_of_lt_of_le (by decide) hN) rfl rfl rfl (Nat.le_of_ble_eq_true rfl) (Nat.le_of_ble_eq_true rfl) (Nat.le_refl _) (m_nextOf (d := 898) hB hM hN hR hk ?_)
          refine E.top eT ?_
          refine E_istore dX12_plan_35 (Nat.le_of_ble_eq_true rfl) ?_
          refine E_iload dX12_plan_37 rfl ?_
          refine E_ic (-1) dX12_plan_39 (by decide) ?_
          refine E_icmp_eq (tgt := 56) dX12_plan_40 (by decide) (fun cw40 => by first | exact absurd cw40 (nI_m1 (by omega)) | exact absurd (nI_m1 (by omega)) cw40) (fun cw40 => ?_)
          refine E_aload_n dX12_plan_43 rfl ?_
          refine E_getR dX12_plan_44 f_X12_7 rfl (Nat.lt_of_lt_of_le (by decide) hN) rfl (hR _ _ _ rfl) ?_
          refine E_bp (nI 48) dX12_plan_47 (by decide) ?_
          refine E_iload_n dX12_plan_49 rfl ?_
          refine E_iadd dX12_plan_50 ?_
          refine E.top (nI_add 48 k) ?_
          refine E_ialdN dX12_plan_51 rfl (Nat.lt_of_lt_of_le (by decide) hN) (by first | assumption | omega) ?_
          refine E.top ((hM.2.1.1 k (by first | assumption | omega)).2.2.2.2.1) ?_
          refine E_ic (nI 1) dX12_plan_52 (by decide) ?_
          refine E_cN_ne (a := σ 3 k 5) (b := 1) (tgt := 59) dX12_plan_53 (by omega) (by decide) (by decide) (fun cw53 => ?_) (fun cw53 => absurd cw53 (by omega))
          refine E_aload_n dX12_plan_59 rfl ?_
          refine E_getR dX12_plan_60 f_X12_7 rfl (Nat.lt_of_lt_of_le (by decide) hN) rfl (hR _ _ _ rfl) ?_
          refine E_aload_n dX12_plan_63 rfl ?_
          refine E_getR dX12_plan_64 f_X12_13 rfl (Nat.lt_of_lt_of_le (by decide) hN) rfl (hR _ _ _ rfl) ?_
          refine E_callS (As := [_, _]) (kc' := 0) (ks' := 0) (kc := 0) (ks := 0) dX12_plan_67 ok_X12_copies w_X12_346 st_X12_copies rfl rfl rfl (Nat.le_of_ble_eq_true rfl) (Nat.le_of_ble_eq_true rfl) (Nat.le_refl _) (m_copies rfl rfl (Nat.lt_of_lt_of_le (by decide) hN) (Nat.lt_of_lt_of_le (by decide) hN) (by decide) ?_)
          refine E_aload_n dX12_plan_70 rfl ?_
          refine E_iload_n dX12_plan_71 rfl ?_
          refine E_iload dX12_plan_72 rfl ?_
          refine E_callV (As := [_, _]) (ci := 11) (kc' := 0) (ks' := 0) (kc := 0) (ks := 0) dX12_plan_74 ok_X12_laysPlan w_X12_372 i_X12_laysPlan s_X12_laysPlan rfl (by decide) rfl (Nat.lt_of_lt_of_le (by decide) hN) rfl rfl rfl (Nat.le_of_ble_eq_true rfl) (Nat.le_of_ble_eq_true rfl) (Nat.le_refl _) (m_laysPlan (d := 893) (c0 := 0) (Y := σ 1 k) (S := σ 2 k) (LN := σ 0 k 0) (T := T) (D := bgD (σ 3 k) 99) hN hR hk hq n4 hT hO h5 h3 hX4 hD4 hz4 (fun I6 f6 z6 p6 w6 => ?_))
          refine E_aload_n dX12_plan_77 rfl ?_
          refine E_getR dX12_plan_78 f_X12_13 rfl (Nat.lt_of_lt_of_le (by decide) hN) rfl (hR _ _ _ rfl) ?_
          refine E_aload_n dX12_plan_81 rfl ?_
          refine E_getR dX12_plan_82 f_X12_7 rfl (Nat.lt_of_lt_of_le (by decide) hN) rfl (hR _ _ _ rfl) ?_
          refine E_callS (As := [_, _]) (kc' := 0) (ks' := 0) (kc := 0) (ks := 0) dX12_plan_85 ok_X12_copies w_X12_346 st_X12_copies rfl rfl rfl (Nat.le_of_ble_eq_true rfl) (Nat.le_of_ble_eq_true rfl) (Nat.le_refl _) (m_copies rfl rfl (Nat.lt_of_lt_of_le (by decide) hN) (Nat.lt_of_lt_of_le (by decide) hN) (by decide) ?_)
          refine E_iload_n dX12_plan_88 rfl ?_
          refine E_zN_ne (a := 1) (tgt := 99) dX12_plan_89 (by decide) (by decide) (fun cw89 => ?_) (fun cw89 => absurd cw89 (by omega))
          refine E_aload_n dX12_plan_99 rfl ?_
          refine E_getI dX12_plan_100 f_X12_363 rfl (Nat.lt_of_lt_of_le (by decide) hN) rfl ?_
          refine E.top ((show cp I6 116 115 75 114 47 = I6 114 47 from if_neg (fun z => absurd z.1 (by decide)))) ?_
          exact E_iret dX12_plan_103 rfl (by
                    have far : ∀ x, x ≠ 114 → x ≠ 115 → x ≠ 116 → x ≠ 133 → x ≠ 134 → x ≠ 139 → x ≠ 140 → x ≠ 141 → cp I6 116 115 75 x = I x := fun x c1 c2 c3 c4 c5 c6 c7 c8 => (show cp I6 116 115 75 x = I6 x from funext fun y => if_neg (fun z => c2 z.1)).trans ((f6.1 x c1 c2 c4 c5 c6 c7 c8).trans (g5 x c3))
                    have f14 : ∀ j, j ≠ 40 → j ≠ 41 → j ≠ 46 → j ≠ 47 → cp I6 116 115 75 114 j = I 114 j := fun j c1 c2 c3 c4 => (show cp I6 116 115 75 114 j = I6 114 j from if_neg (fun z => absurd z.1 (by decide))).trans ((f6.2 j c1 c2 c3 c4).trans (congrFun (g5 114 (by decide)) j))
                    have f15 : ∀ y, y < 75 → cp I6 116 115 75 115 y = I 115 y := fun y hy => (if_pos ⟨rfl, hy⟩).trans ((congrFun (f6.1 116 (by decide) (by decide) (by decide) (by decide) (by decide) (by decide) (by decide)) y).trans (h5b y hy))
                    obtain ⟨m1', ⟨k0, k1, k2, k3⟩, m3, m4, m5, m6⟩ := hM
                    have e8 : skQ q σ k T = (srP (nxP q k (σ 0 k 0) (σ 1 k) (σ 2 k)) (ouP q k (σ 0 k 0) (σ 1 k) (σ 2 k) T) (brP q k (σ 0 k 0) (σ 1 k) (σ 2 k)) (skB (bgD (σ 3 k) 99)) 49500).2 := rfl
                    rw [anP_1, e8, ← w6] at hQ
                    refine hQ _ ⟨fun i hi => ?_, ⟨fun i hi => ?_, ?_, ?_, ?_⟩, fun z => ?_, ⟨?_, ?_⟩, ?_, fun j => ?_⟩ (fun a a1 => far a (by omega) (by omega) (by omega) (by omega) (by omega) (by omega) (by omega) (by omega)) (f14 16 (by decide) (by decide) (by decide) (by decide)) (fun a a1 a2 => far a (by omega) (by omega) (by omega) (by omega) (by omega) (by omega) (by omega) (by omega))
                    · rw [far 118 (by decide) (by decide) (by decide) (by decide) (by decide) (by decide) (by decide) (by decide), far 119 (by decide) (by decide) (by decide) (by decide) (by decide) (by decide) (by decide) (by decide), far 120 (by decide) (by decide) (by decide) (by decide) (by decide) (by decide) (by decide) (by decide)]
                      exact m1' i hi
                    · rw [f15 i (by omega), f15 (12 + i) (by omega), f15 (24 + i) (by omega), f15 (36 + i) (by omega), f15 (48 + i) (by omega), f15 (60 + i) (by omega)]
                      exact k0 i hi
                    · rw [f15 72 (by decide)]
                      exact k1
                    · rw [f15 73 (by decide)]
                      exact k2
                    · rw [f15 74 (by decide)]
                      exact k3
                    · rw [far 117 (by decide) (by decide) (by decide) (by decide) (by decide) (by decide) (by decide) (by decide)]
                      exact m3 z
                    · exact (f14 7 (by decide) (by decide) (by decide) (by decide)).trans m4.1
                    · exact (f14 58 (by decide) (by decide) (by decide) (by decide)).trans m4.2
                    · rw [far 121 (by decide) (by decide) (by decide) (by decide) (by decide) (by decide) (by decide) (by decide)]
                      exact m5
                    · exact (show cp I6 116 115 75 140 j = I6 140 j from if_neg (fun z => absurd z.1 (by decide))).trans (z6 j))
        · skip
          exact absurd rfl (z _ (by omega) (by omega))
      · skip
        exact absurd rfl (z _ (by omega) (by omega))
    · skip
      exact absurd (tk_of hk h0) z
set_option maxRecDepth 100000 in
set_option maxHeartbeats 2000000 in
theorem pair_plan (x y w : Int32) (g : GL) (n : Nat) (I : IM) (J : JM) (R : RM) (h : INV LRq n I J R) : ∃ (r : Value) (P : Nat → IM → JM → RM → Prop) (kx sx : Nat), (∃ z : Int32, r = .int z) ∧ kx ≤ 153 - n ∧ sx ≤ 49500 * (153 - n) ∧
  (∀ Q : PQ, (∀ n' I' J' R', 152 ≤ n' → n' ≤ 153 → kx + (153 - n') ≤ 153 - n → sx + 49500 * (153 - n') ≤ 49500 * (153 - n) → P n' I' J' R' → Q (some r) n' I' J' R') → E g mX11_plan 900 kx sx 0 (ent mX11_plan.2.2.1 (.ref 0 :: [.int x, .int y, .int w])) [] n I J R Q) ∧
  ∀ n' I' J' R', P n' I' J' R' → ∀ Q : PQ, (∀ I2 J2 R2, INV LRq n' I2 J2 R2 → Q (some r) n' I2 J2 R2) → E g mX12_plan 900 0 0 0 (ent mX12_plan.2.2.1 (.ref 114 :: [.int x, .int y, .int w])) [] n' I' J' R' Q := by
  obtain ⟨σ, hB, hX, hM, hl⟩ := id h
  have hn := hX.2.2.2.1.n
  have hR := hX.2.2.2.1.1
  by_cases hg : gPl σ x y w
  · obtain ⟨hx, ⟨yy, hy, rfl⟩, ⟨ww, hww, rfl⟩⟩ := hg
    obtain ⟨k, hk, rfl, h0⟩ := tk_ex hx
    by_cases hno : noP σ k (nI yy)
    · refine ⟨.int (-2), fun n' I' J' R' => n' = n ∧ I' = I ∧ R' = R, 0, 0, ⟨_, rfl⟩, Nat.zero_le _, Nat.zero_le _, fun Q hQ => ?_, ?_⟩
      · exact x_planN hB hX hk h0 hy hww hno (hQ n I J R hn.1 hn.2 (by omega) (by omega) ⟨rfl, rfl, rfl⟩)
      · rintro n' I' J' R' ⟨rfl, rfl, rfl⟩ Q hQ
        exact m_planN hB hM hn.1 hR hk h0 hy hww hno (hQ I' J' R' h)
    · obtain ⟨q, hq, hlx, hlm⟩ := id hl
      have h5 : σ 3 k 5 = 0 := Decidable.byContradiction (fun z => hno (Or.inr z))
      have n4 := (hB.1 k hk).1
      have n5 := (hB.1 k hk).2.2.2
      rcases nxt_ex (f := σ 1 k) (y := nI yy) (σ 0 k 0 - σ 3 k 3) (σ 3 k 3) with ht | ⟨T, t1, t2, eT⟩
      · exact absurd (Or.inl (by rw [show tgP σ k (nI yy) = -1 from ht]; decide)) hno
      · have eT : tgP σ k (nI yy) = nI T := eT
        have key : ∀ (kx sx : Nat), kx ≤ 153 - n → sx ≤ 49500 * (153 - n) → (∀ Q : PQ, (∀ (I2 : IM) (R2 : RM), XN 153 R2 → (∀ x, x < 152 → x ≠ 9 → x ≠ 10 → x ≠ 22 → x ≠ 23 → x ≠ 37 → x ≠ 38 → I2 x = I x) → Q (some (.int (anP (skQ q σ k T) (nI ww)))) 153 I2 J R2) → E g mX11_plan 900 kx sx 0 (ent 5 [.ref 0, .int (nI k), .int (nI yy), .int (nI ww)]) [] n I J R Q) → ∃ (r : Value) (P : Nat → IM → JM → RM → Prop) (kx sx : Nat), (∃ z : Int32, r = .int z) ∧ kx ≤ 153 - n ∧ sx ≤ 49500 * (153 - n) ∧
            (∀ Q : PQ, (∀ n' I' J' R', 152 ≤ n' → n' ≤ 153 → kx + (153 - n') ≤ 153 - n → sx + 49500 * (153 - n') ≤ 49500 * (153 - n) → P n' I' J' R' → Q (some r) n' I' J' R') → E g mX11_plan 900 kx sx 0 (ent mX11_plan.2.2.1 (.ref 0 :: [.int (nI k), .int (nI yy), .int (nI ww)])) [] n I J R Q) ∧
            ∀ n' I' J' R', P n' I' J' R' → ∀ Q : PQ, (∀ I2 J2 R2, INV LRq n' I2 J2 R2 → Q (some r) n' I2 J2 R2) → E g mX12_plan 900 0 0 0 (ent mX12_plan.2.2.1 (.ref 114 :: [.int (nI k), .int (nI yy), .int (nI ww)])) [] n' I' J' R' Q := by
          intro kx sx e1 e2 hE
          refine ⟨.int (anP (skQ q σ k T) (nI ww)), fun n' I' J' R' => n' = 153 ∧ XN 153 R' ∧ (∀ x, x < 152 → x ≠ 9 → x ≠ 10 → x ≠ 22 → x ≠ 23 → x ≠ 37 → x ≠ 38 → I' x = I x), kx, sx, ⟨_, rfl⟩, e1, e2, fun Q hQ => ?_, ?_⟩
          · exact hE Q (fun I2 R2 r2 f2 => hQ 153 I2 J R2 (by decide) (by decide) (by omega) (by omega) ⟨rfl, r2, f2⟩)
          · rintro n' I' J' R' ⟨rfl, r2, f2⟩ Q hQ
            have f3 : ∀ a, 38 < a → a < 152 → I' a = I a := fun a a1 a2 => f2 a a2 (by omega) (by omega) (by omega) (by omega) (by omega) (by omega)
            have hM2 : MR σ I' := hM.off (fun a a1 a2 => f3 a (by omega) a2)
            have hX2 : XR σ 153 I' R' := by
              obtain ⟨x1, x2, x3, x4, x5⟩ := hX
              exact ⟨x1.congr (fun a a1 a2 => f3 a (by omega) (by omega)), by rw [f2 0 (by decide) (by decide) (by decide) (by decide) (by decide) (by decide) (by decide)]; exact x2, by rw [f2 2 (by decide) (by decide) (by decide) (by decide) (by decide) (by decide) (by decide)]; exact x3, r2, x5.congr (fun a a1 a2 => f3 a (by omega) (by omega))⟩
            have hlm2 : LMq q I' := hlm.keep (congrFun (f3 114 (by decide) (by decide)) 16) (fun a a1 a2 => f3 a (by omega) (by omega))
            refine m_planS hB hM2 (by decide) r2.1 hk h0 hy hww hq hlm2 eT (by omega) t1 h5 (fun I4 m4 a4 b4 d4 => ?_)
            exact hQ I4 J' R' ⟨σ, hB, hX2.off a4, m4, LRq_ok I I4 (fun a a1 a2 => (a4 a (by omega)).trans (f2 a (by omega) (by omega) (by omega) (by omega) (by omega) (by omega) (by omega))) (b4.trans (congrFun (f3 114 (by decide) (by decide)) 16)) (fun a a1 a2 => (d4 a a1 a2).trans (f3 a (by omega) (by omega))) hl⟩
        rcases hX.2.2.2.1.2 with ⟨n1, w1⟩ | ⟨n1, w1⟩
        · subst n1
          refine key 1 49500 (by decide) (by decide) (fun Q hQ => ?_)
          refine x_planB hB hq hlx hk h0 hy hww eT (by omega) h5 hX w1 (fun I2 f2 => ?_)
          exact hQ I2 _ ⟨RS.up (RS.up (RS.up hR rfl) rfl) rfl, Or.inr ⟨rfl, up2_s _ _ _ _⟩⟩ f2
        · subst n1
          refine key 0 0 (by decide) (by decide) (fun Q hQ => ?_)
          refine x_planA hB hq hlx hk h0 hy hww eT (by omega) h5 hX w1 (fun I2 f2 => ?_)
          exact hQ I2 _ ⟨RS.up (RS.up hR rfl) rfl, Or.inr ⟨rfl, (congrFun (up2_o _ 22 2 _ 37 (by decide)) 1).trans ((congrFun (up2_o _ 22 1 _ 37 (by decide)) 1).trans w1)⟩⟩ f2
  · refine ⟨.int (-1), fun n' I' J' R' => n' = n ∧ I' = I ∧ R' = R, 0, 0, ⟨_, rfl⟩, Nat.zero_le _, Nat.zero_le _, fun Q hQ => ?_, ?_⟩
    · exact x_planG hB hX hg (hQ n I J R hn.1 hn.2 (by omega) (by omega) ⟨rfl, rfl, rfl⟩)
    · rintro n' I' J' R' ⟨rfl, rfl, rfl⟩ Q hQ
      exact m_planG hB hM hn.1 hR hg (hQ I' J' R' h)
end PPlanM
