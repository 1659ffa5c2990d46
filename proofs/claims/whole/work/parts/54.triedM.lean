/-! ===== tried, the reference ===== -/
section PTriedM
variable {g : GL} {d n : Nat} {I : IM} {J : JM} {R : RM} {Q : PQ} {k : Nat} {q : LWD} {σ : ST}
set_option maxRecDepth 100000 in
set_option maxHeartbeats 2000000 in
theorem sm_tried (x w v : Int32) : SMQ mX12_tried [.int x, .int w, .int v] (r_tried x w v) (u_tried x w v) := by
  intro g n I J R σ q Q hB hM hq hl hN hR hQ
  have b9 : σ 9 0 0 ≤ 260 := hB.2.2.2.2.2.1
  unfold r_tried u_tried at hQ
  have hNO : ¬ gTr σ x w v → Q (some (.int (-1))) n I J R := fun hno => by
    rw [gd_f hno] at hQ
    rw [gd_f hno] at hQ
    exact hQ I J hM (fun _ _ => rfl) rfl (fun _ _ _ => rfl)
  by_cases hx : tk σ x
  · obtain ⟨k, hk, rfl, h0⟩ := tk_ex hx
    by_cases hw : ∃ m, 1 ≤ m ∧ m ≤ 60 ∧ w = nI m
    · obtain ⟨m, m1, m2, rfl⟩ := hw
      by_cases hv : rg v 7
      · obtain ⟨v, hv7, rfl⟩ := hv
        by_cases hm9 : m ≤ σ 9 0 0
        · have hg : gTr σ (nI k) (nI m) (nI v) := ⟨⟨hx, tp_of m1 m2 hm9⟩, rg_of hv7⟩
          rw [gd_t hg, gd_t hg, nI_clamp (n := m) (by omega), nI_clamp (n := k) (by omega)] at hQ
          have hc := tp_okc hB hm9
          have cv : v = 0 ∨ v = 1 ∨ v = 2 ∨ v = 3 ∨ v = 4 ∨ v = 5 ∨ v = 6 ∨ v = 7 := by omega
          rcases cv with rfl | rfl | rfl | rfl | rfl | rfl | rfl | rfl
          · skip
            rw [nI_clamp (n := 0) (by decide)] at hQ
            refine E_aload_n dX12_tried_0 rfl ?_
            refine E_iload_n dX12_tried_1 rfl ?_
            refine E_callV (As := [_]) (ci := 11) (kc' := 0) (ks' := 0) (kc := 0) (ks := 0) dX12_tried_2 ok_X12_isTold w_X12_340 i_X12_isTold s_X12_isTold rfl (by decide) rfl (Nat.lt_of_lt_of_le (by decide) hN) rfl rfl rfl (Nat.le_of_ble_eq_true rfl) (Nat.le_of_ble_eq_true rfl) (Nat.le_refl _) (M_isTold (d := 898) hB hM hN hR (fun j hj e hj0 => ?_) (fun z => ?_))
            · skip
              refine E_zN_eq (a := 1) (tgt := 36) dX12_tried_5 (by decide) (by decide) (fun cw5 => absurd cw5 (by omega)) (fun cw5 => ?_)
              refine E_iload_n dX12_tried_8 rfl ?_
              refine E_ic (nI 1) dX12_tried_9 (by decide) ?_
              refine E_bp (nI 60) dX12_tried_10 (by decide) ?_
              refine E_callS (As := [_, _, _]) (kc' := 0) (ks' := 0) (kc := 0) (ks := 0) dX12_tried_12 ok_X12_in w_X12_124 st_X12_in rfl rfl rfl (Nat.le_of_ble_eq_true rfl) (Nat.le_of_ble_eq_true rfl) (Nat.le_refl _) (M_in (x := nI m) (by decide) (by decide) (fun _ _ _ _ => ?_) (fun z => ?_))
              · skip
                refine E_zN_eq (a := 1) (tgt := 36) dX12_tried_15 (by decide) (by decide) (fun cw15 => absurd cw15 (by omega)) (fun cw15 => ?_)
                refine E_iload_n dX12_tried_18 rfl ?_
                refine E_ic (nI 0) dX12_tried_19 (by decide) ?_
                refine E_bp (nI 7) dX12_tried_20 (by decide) ?_
                refine E_callS (As := [_, _, _]) (kc' := 0) (ks' := 0) (kc := 0) (ks := 0) dX12_tried_22 ok_X12_in w_X12_124 st_X12_in rfl rfl rfl (Nat.le_of_ble_eq_true rfl) (Nat.le_of_ble_eq_true rfl) (Nat.le_refl _) (M_in (x := nI 0) (by decide) (by decide) (fun _ _ _ _ => ?_) (fun z => ?_))
                · skip
                  refine E_zN_eq (a := 1) (tgt := 36) dX12_tried_25 (by decide) (by decide) (fun cw25 => absurd cw25 (by omega)) (fun cw25 => ?_)
                  refine E_iload_n dX12_tried_28 rfl ?_
                  refine E_aload_n dX12_tried_29 rfl ?_
                  refine E_getI dX12_tried_30 f_X12_128 rfl (Nat.lt_of_lt_of_le (by decide) hN) rfl ?_
                  refine E.top (hM.2.2.2.1.1) ?_
                  refine E_cN_le (a := m) (b := σ 9 0 0) (tgt := 38) dX12_tried_33 (by omega) (by omega) (by decide) (fun cw33 => ?_) (fun cw33 => absurd cw33 (by omega))
                  refine E_aload_n dX12_tried_38 rfl ?_
                  refine E_iload_n dX12_tried_39 rfl ?_
                  refine E_ic (nI 0) dX12_tried_40 (by decide) ?_
                  refine E_callV (As := [_, _]) (ci := 11) (kc' := 0) (ks' := 0) (kc := 0) (ks := 0) dX12_tried_41 ok_X12_readsRow w_X12_276 i_X12_readsRow s_X12_readsRow rfl (by decide) rfl (Nat.lt_of_lt_of_le (by decide) hN) rfl rfl rfl (Nat.le_of_ble_eq_true rfl) (Nat.le_of_ble_eq_true rfl) (Nat.le_refl _) (m_readsRow0 (d := 895) hN hR hc m1 (by omega) (fun j hj => hM.2.2.2.2.1 j (by omega)) ?_)
                  cases hr : rdS 0 96 m (ccS (tpS σ) m) with
                  | inl z =>
                    have hQ : ∀ (I' : IM) (J' : JM), MR (u0 σ) I' → (∀ a, a < 114 → I' a = I a) → I' 114 16 = I 114 16 → (∀ a, 128 ≤ a → a ≤ 132 → I' a = I a) → Q (some (.int (z))) n I' J' R := by rw [hr] at hQ; exact hQ
                    intro I4 f4 e4
                    refine E_zN_ne (a := 0) (tgt := 52) dX12_tried_44 (by decide) (by decide) (fun cw44 => absurd cw44 (by omega)) (fun cw44 => ?_)
                    refine E_aload_n dX12_tried_47 rfl ?_
                    refine E_getI dX12_tried_48 f_X12_146 rfl (Nat.lt_of_lt_of_le (by decide) hN) rfl ?_
                    refine E.top (e4) ?_
                    exact E_iret dX12_tried_51 rfl (hQ I4 J ⟨fun i hi => by rw [f4.1 118 (by decide) (by decide) (by decide) (by decide) (by decide), f4.1 119 (by decide) (by decide) (by decide) (by decide) (by decide), f4.1 120 (by decide) (by decide) (by decide) (by decide) (by decide)]; exact hM.1 i hi, by rw [f4.1 115 (by decide) (by decide) (by decide) (by decide) (by decide)]; exact hM.2.1, fun z => by rw [f4.1 117 (by decide) (by decide) (by decide) (by decide) (by decide)]; exact hM.2.2.1 z, ⟨f4.2.2, (f4.2.1 58 (by unfold fkR; omega)).trans hM.2.2.2.1.2⟩, fun j hj => absurd hj (Nat.not_lt_zero j), fun j => by rw [f4.1 140 (by decide) (by decide) (by decide) (by decide) (by decide)]; exact hM.2.2.2.2.2 j⟩ (fun a a1 => f4.1 a (by omega) (by omega) (by omega) (by omega) (by omega)) (f4.2.1 16 (by unfold fkR; omega)) (fun a a1 a2 => f4.1 a (by omega) (by omega) (by omega) (by omega) (by omega)))
                  | inr r =>
                    have hQ : ∀ (I' : IM) (J' : JM), MR (u0 σ) I' → (∀ a, a < 114 → I' a = I a) → I' 114 16 = I 114 16 → (∀ a, 128 ≤ a → a ≤ 132 → I' a = I a) → Q (some (.int (askR σ k 0 (rnQ q σ k r)))) n I' J' R := by rw [hr] at hQ; exact hQ
                    obtain ⟨⟨a1, a2, a3, a4, a5⟩, _⟩ := rd_ok hc hr
                    intro I4 f4 n4 i4
                    have e15 : I4 115 = I 115 := f4.1 115 (by decide) (by decide) (by decide) (by decide) (by decide)
                    have g5 : ∀ x, x ≠ 116 → (cp I4 115 116 75) x = I4 x := fun x hx => funext fun y => if_neg (fun z => hx z.1)
                    have h5 : ∀ y, y < 75 → (cp I4 115 116 75) 116 y = I 115 y := fun y hy => (if_pos ⟨rfl, hy⟩).trans (congrFun e15 y)
                    have hX4 : MCr k (σ 0 k 0) (σ 1 k) (σ 2 k) q (cp I4 115 116 75) := ⟨(congrFun ((g5 118 (by decide)).trans (f4.1 118 (by decide) (by decide) (by decide) (by decide) (by decide))) k).trans (hM.1 k hk).1, fun i hi => by rw [g5 119 (by decide), g5 120 (by decide), f4.1 119 (by decide) (by decide) (by decide) (by decide) (by decide), f4.1 120 (by decide) (by decide) (by decide) (by decide) (by decide)]; exact (hM.1 k hk).2 i hi, hl.keep ((congrFun (g5 114 (by decide)) 16).trans (f4.2.1 16 (by unfold fkR; omega))) (fun a a1 a2 => (g5 a (by omega)).trans (f4.1 a (by omega) (by omega) (by omega) (by omega) (by omega)))⟩
                    have c9 : σ 4 1 0 ≤ 9999 := hB.2.1.2.1
                    have w4 := hM.2.1.1 k hk
                    have e15b : (cp I4 115 116 75) 115 = I 115 := (g5 115 (by decide)).trans e15
                    have row4 : (cp I4 115 116 75) 115 k = nI (σ 3 k 0) ∧ (cp I4 115 116 75) 115 (12 + k) = nI (σ 3 k 1) ∧ (cp I4 115 116 75) 115 (24 + k) = nI (σ 3 k 2) ∧ (cp I4 115 116 75) 115 (60 + k) = nI (σ 3 k 3) ∧ (cp I4 115 116 75) 115 (36 + k) = nI (σ 3 k 4) ∧ (cp I4 115 116 75) 115 (48 + k) = nI (σ 3 k 5) := by rw [e15b]; exact ⟨w4.1, w4.2.1, w4.2.2.1, w4.2.2.2.2.2, w4.2.2.2.1, w4.2.2.2.2.1⟩
                    refine E_zN_ne (a := 1) (tgt := 52) dX12_tried_44 (by decide) (by decide) (fun cw44 => ?_) (fun cw44 => absurd cw44 (by omega))
                    refine E_aload_n dX12_tried_52 rfl ?_
                    refine E_getR dX12_tried_53 f_X12_7 rfl (Nat.lt_of_lt_of_le (by decide) hN) rfl (hR _ _ _ rfl) ?_
                    refine E_aload_n dX12_tried_56 rfl ?_
                    refine E_getR dX12_tried_57 f_X12_13 rfl (Nat.lt_of_lt_of_le (by decide) hN) rfl (hR _ _ _ rfl) ?_
                    refine E_callS (As := [_, _]) (kc' := 0) (ks' := 0) (kc := 0) (ks := 0) dX12_tried_60 ok_X12_copies w_X12_346 st_X12_copies rfl rfl rfl (Nat.le_of_ble_eq_true rfl) (Nat.le_of_ble_eq_true rfl) (Nat.le_refl _) (m_copies rfl rfl (Nat.lt_of_lt_of_le (by decide) hN) (Nat.lt_of_lt_of_le (by decide) hN) (by decide) ?_)
                    refine E_aload_n dX12_tried_63 rfl ?_
                    refine E_iload_n dX12_tried_64 rfl ?_
                    refine E_callV (As := [_]) (ci := 11) (kc' := 0) (ks' := 0) (kc := 0) (ks := 0) dX12_tried_65 ok_X12_draws w_X12_343 i_X12_draws s_X12_draws rfl (by decide) rfl (Nat.lt_of_lt_of_le (by decide) hN) rfl rfl rfl (Nat.le_of_ble_eq_true rfl) (Nat.le_of_ble_eq_true rfl) (Nat.le_refl _) (m_draws (d := 893) (k := k) (c0 := σ 4 1 0) (sc := σ 4 0 0) (l := σ 4 2 0) (f := r.2.2) (s := σ 3 k) hN hR hk hq (hB.1 k hk).1 a4 (fun i hi => a5 i hi) hX4 (bgD_ok hB hk) row4 (by rw [e15b]; exact hM.2.1.2.1) (by rw [e15b]; exact hM.2.1.2.2.1) c9 hB.2.1.2.2 (by rw [e15b]; exact hM.2.1.2.2.2) ((congrFun (g5 114 (by decide)) 34).trans n4) (fun j hj => (congrFun (g5 135 (by decide)) j).trans (i4 j hj)) (fun I6 f6 d6 l6 b6 => ?_))
                    revert hQ d6 l6 b6
                    show _ → _ → _ → _ → E g mX12_tried _ _ _ _ _ _ _ _ _ _ _
                    rw [show rnS q k (σ 0 k 0) (σ 1 k) (σ 2 k) r.2.2 r.2.1 0 (bgD (σ 3 k) (σ 4 0 0)) (σ 4 2 0) (if σ 3 k 5 = 0 then -2 else -3) = rnQ q σ k r from rfl]
                    generalize rnQ q σ k r = o
                    intro hQ d6 l6 b6
                    refine E_iload_n dX12_tried_68 rfl ?_
                    refine E_tin (tgt := 116) dX12_tried_69 (by decide) (by decide) rfl (by decide) ?_
                    refine E_aload_n dX12_tried_116 rfl ?_
                    refine E_getI dX12_tried_117 f_X12_295 rfl (Nat.lt_of_lt_of_le (by decide) hN) rfl ?_
                    refine E.top ((d6.2 rfl).2.1) ?_
                    refine E_istore dX12_tried_120 (Nat.le_of_ble_eq_true rfl) ?_
                    refine E_goto (tgt := 172) dX12_tried_122 (by decide) ?_
                    refine E_aload_n dX12_tried_172 rfl ?_
                    refine E_getR dX12_tried_173 f_X12_13 rfl (Nat.lt_of_lt_of_le (by decide) hN) rfl (hR _ _ _ rfl) ?_
                    refine E_aload_n dX12_tried_176 rfl ?_
                    refine E_getR dX12_tried_177 f_X12_7 rfl (Nat.lt_of_lt_of_le (by decide) hN) rfl (hR _ _ _ rfl) ?_
                    refine E_callS (As := [_, _]) (kc' := 0) (ks' := 0) (kc := 0) (ks := 0) dX12_tried_180 ok_X12_copies w_X12_346 st_X12_copies rfl rfl rfl (Nat.le_of_ble_eq_true rfl) (Nat.le_of_ble_eq_true rfl) (Nat.le_refl _) (m_copies rfl rfl (Nat.lt_of_lt_of_le (by decide) hN) (Nat.lt_of_lt_of_le (by decide) hN) (by decide) ?_)
                    refine E_iload dX12_tried_183 rfl ?_
                    refine E_iret dX12_tried_185 rfl ?_
                    have far : ∀ x, x ≠ 114 → x ≠ 115 → x ≠ 116 → x ≠ 133 → x ≠ 134 → x ≠ 135 → x ≠ 136 → x ≠ 137 → x ≠ 138 → cp I6 116 115 75 x = I x := fun x c1 c2 c3 c4 c5 c6 c7 c8 c9 => (show cp I6 116 115 75 x = I6 x from funext fun y => if_neg (fun z => c2 z.1)).trans ((f6.1 x c1 c2 c4 c5).trans ((g5 x c3).trans (f4.1 x c1 c6 c7 c8 c9)))
                    have f14 : ∀ j, j ≠ 40 → j ≠ 41 → j ≠ 42 → cp I6 116 115 75 114 j = I4 114 j := fun j c1 c2 c3 => (show cp I6 116 115 75 114 j = I6 114 j from if_neg (fun z => absurd z.1 (by decide))).trans ((f6.2.1 j c1 c2 c3).trans (congrFun (g5 114 (by decide)) j))
                    have f15 : ∀ y, y < 75 → cp I6 116 115 75 115 y = I 115 y := fun y hy => (if_pos ⟨rfl, hy⟩).trans ((congrFun (f6.1 116 (by decide) (by decide) (by decide) (by decide)) y).trans (h5 y hy))
                    obtain ⟨m1', ⟨k0, k1, k2, k3⟩, m3, m4, m5, m6⟩ := hM
                    refine hQ _ J ⟨fun i hi => ?_, ⟨fun i hi => ?_, ?_, ?_, ?_⟩, fun z => ?_, ⟨?_, ?_⟩, fun j hj => absurd hj (Nat.not_lt_zero j), fun j => ?_⟩ (fun a a1 => far a (by omega) (by omega) (by omega) (by omega) (by omega) (by omega) (by omega) (by omega) (by omega)) ((f14 16 (by decide) (by decide) (by decide)).trans (f4.2.1 16 (by unfold fkR; omega))) (fun a a1 a2 => far a (by omega) (by omega) (by omega) (by omega) (by omega) (by omega) (by omega) (by omega) (by omega))
                    · rw [far 118 (by decide) (by decide) (by decide) (by decide) (by decide) (by decide) (by decide) (by decide) (by decide), far 119 (by decide) (by decide) (by decide) (by decide) (by decide) (by decide) (by decide) (by decide) (by decide), far 120 (by decide) (by decide) (by decide) (by decide) (by decide) (by decide) (by decide) (by decide) (by decide)]
                      exact m1' i hi
                    · rw [f15 i (by omega), f15 (12 + i) (by omega), f15 (24 + i) (by omega), f15 (36 + i) (by omega), f15 (48 + i) (by omega), f15 (60 + i) (by omega)]
                      exact k0 i hi
                    · rw [f15 72 (by decide)]
                      exact k1
                    · rw [f15 73 (by decide)]
                      exact k2
                    · rw [f15 74 (by decide)]
                      exact k3
                    · rw [far 117 (by decide) (by decide) (by decide) (by decide) (by decide) (by decide) (by decide) (by decide) (by decide)]
                      exact m3 z
                    · exact (f14 7 (by decide) (by decide) (by decide)).trans f4.2.2
                    · exact (f14 58 (by decide) (by decide) (by decide)).trans ((f4.2.1 58 (by unfold fkR; omega)).trans m4.2)
                    · rw [far 140 (by decide) (by decide) (by decide) (by decide) (by decide) (by decide) (by decide) (by decide) (by decide)]
                      exact m6 j
                · skip
                  exact absurd rfl (z _ (by omega) (by omega))
              · skip
                exact absurd rfl (z _ (by omega) (by omega))
            · skip
              exact absurd (tk_of hk h0) z
          · skip
            rw [nI_clamp (n := 1) (by decide)] at hQ
            refine E_aload_n dX12_tried_0 rfl ?_
            refine E_iload_n dX12_tried_1 rfl ?_
            refine E_callV (As := [_]) (ci := 11) (kc' := 0) (ks' := 0) (kc := 0) (ks := 0) dX12_tried_2 ok_X12_isTold w_X12_340 i_X12_isTold s_X12_isTold rfl (by decide) rfl (Nat.lt_of_lt_of_le (by decide) hN) rfl rfl rfl (Nat.le_of_ble_eq_true rfl) (Nat.le_of_ble_eq_true rfl) (Nat.le_refl _) (M_isTold (d := 898) hB hM hN hR (fun j hj e hj0 => ?_) (fun z => ?_))
            · skip
              refine E_zN_eq (a := 1) (tgt := 36) dX12_tried_5 (by decide) (by decide) (fun cw5 => absurd cw5 (by omega)) (fun cw5 => ?_)
              refine E_iload_n dX12_tried_8 rfl ?_
              refine E_ic (nI 1) dX12_tried_9 (by decide) ?_
              refine E_bp (nI 60) dX12_tried_10 (by decide) ?_
              refine E_callS (As := [_, _, _]) (kc' := 0) (ks' := 0) (kc := 0) (ks := 0) dX12_tried_12 ok_X12_in w_X12_124 st_X12_in rfl rfl rfl (Nat.le_of_ble_eq_true rfl) (Nat.le_of_ble_eq_true rfl) (Nat.le_refl _) (M_in (x := nI m) (by decide) (by decide) (fun _ _ _ _ => ?_) (fun z => ?_))
              · skip
                refine E_zN_eq (a := 1) (tgt := 36) dX12_tried_15 (by decide) (by decide) (fun cw15 => absurd cw15 (by omega)) (fun cw15 => ?_)
                refine E_iload_n dX12_tried_18 rfl ?_
                refine E_ic (nI 0) dX12_tried_19 (by decide) ?_
                refine E_bp (nI 7) dX12_tried_20 (by decide) ?_
                refine E_callS (As := [_, _, _]) (kc' := 0) (ks' := 0) (kc := 0) (ks := 0) dX12_tried_22 ok_X12_in w_X12_124 st_X12_in rfl rfl rfl (Nat.le_of_ble_eq_true rfl) (Nat.le_of_ble_eq_true rfl) (Nat.le_refl _) (M_in (x := nI 1) (by decide) (by decide) (fun _ _ _ _ => ?_) (fun z => ?_))
                · skip
                  refine E_zN_eq (a := 1) (tgt := 36) dX12_tried_25 (by decide) (by decide) (fun cw25 => absurd cw25 (by omega)) (fun cw25 => ?_)
                  refine E_iload_n dX12_tried_28 rfl ?_
                  refine E_aload_n dX12_tried_29 rfl ?_
                  refine E_getI dX12_tried_30 f_X12_128 rfl (Nat.lt_of_lt_of_le (by decide) hN) rfl ?_
                  refine E.top (hM.2.2.2.1.1) ?_
                  refine E_cN_le (a := m) (b := σ 9 0 0) (tgt := 38) dX12_tried_33 (by omega) (by omega) (by decide) (fun cw33 => ?_) (fun cw33 => absurd cw33 (by omega))
                  refine E_aload_n dX12_tried_38 rfl ?_
                  refine E_iload_n dX12_tried_39 rfl ?_
                  refine E_ic (nI 0) dX12_tried_40 (by decide) ?_
                  refine E_callV (As := [_, _]) (ci := 11) (kc' := 0) (ks' := 0) (kc := 0) (ks := 0) dX12_tried_41 ok_X12_readsRow w_X12_276 i_X12_readsRow s_X12_readsRow rfl (by decide) rfl (Nat.lt_of_lt_of_le (by decide) hN) rfl rfl rfl (Nat.le_of_ble_eq_true rfl) (Nat.le_of_ble_eq_true rfl) (Nat.le_refl _) (m_readsRow0 (d := 895) hN hR hc m1 (by omega) (fun j hj => hM.2.2.2.2.1 j (by omega)) ?_)
                  cases hr : rdS 0 96 m (ccS (tpS σ) m) with
                  | inl z =>
                    have hQ : ∀ (I' : IM) (J' : JM), MR (u0 σ) I' → (∀ a, a < 114 → I' a = I a) → I' 114 16 = I 114 16 → (∀ a, 128 ≤ a → a ≤ 132 → I' a = I a) → Q (some (.int (z))) n I' J' R := by rw [hr] at hQ; exact hQ
                    intro I4 f4 e4
                    refine E_zN_ne (a := 0) (tgt := 52) dX12_tried_44 (by decide) (by decide) (fun cw44 => absurd cw44 (by omega)) (fun cw44 => ?_)
                    refine E_aload_n dX12_tried_47 rfl ?_
                    refine E_getI dX12_tried_48 f_X12_146 rfl (Nat.lt_of_lt_of_le (by decide) hN) rfl ?_
                    refine E.top (e4) ?_
                    exact E_iret dX12_tried_51 rfl (hQ I4 J ⟨fun i hi => by rw [f4.1 118 (by decide) (by decide) (by decide) (by decide) (by decide), f4.1 119 (by decide) (by decide) (by decide) (by decide) (by decide), f4.1 120 (by decide) (by decide) (by decide) (by decide) (by decide)]; exact hM.1 i hi, by rw [f4.1 115 (by decide) (by decide) (by decide) (by decide) (by decide)]; exact hM.2.1, fun z => by rw [f4.1 117 (by decide) (by decide) (by decide) (by decide) (by decide)]; exact hM.2.2.1 z, ⟨f4.2.2, (f4.2.1 58 (by unfold fkR; omega)).trans hM.2.2.2.1.2⟩, fun j hj => absurd hj (Nat.not_lt_zero j), fun j => by rw [f4.1 140 (by decide) (by decide) (by decide) (by decide) (by decide)]; exact hM.2.2.2.2.2 j⟩ (fun a a1 => f4.1 a (by omega) (by omega) (by omega) (by omega) (by omega)) (f4.2.1 16 (by unfold fkR; omega)) (fun a a1 a2 => f4.1 a (by omega) (by omega) (by omega) (by omega) (by omega)))
                  | inr r =>
                    have hQ : ∀ (I' : IM) (J' : JM), MR (u0 σ) I' → (∀ a, a < 114 → I' a = I a) → I' 114 16 = I 114 16 → (∀ a, 128 ≤ a → a ≤ 132 → I' a = I a) → Q (some (.int (askR σ k 1 (rnQ q σ k r)))) n I' J' R := by rw [hr] at hQ; exact hQ
                    obtain ⟨⟨a1, a2, a3, a4, a5⟩, _⟩ := rd_ok hc hr
                    intro I4 f4 n4 i4
                    have e15 : I4 115 = I 115 := f4.1 115 (by decide) (by decide) (by decide) (by decide) (by decide)
                    have g5 : ∀ x, x ≠ 116 → (cp I4 115 116 75) x = I4 x := fun x hx => funext fun y => if_neg (fun z => hx z.1)
                    have h5 : ∀ y, y < 75 → (cp I4 115 116 75) 116 y = I 115 y := fun y hy => (if_pos ⟨rfl, hy⟩).trans (congrFun e15 y)
                    have hX4 : MCr k (σ 0 k 0) (σ 1 k) (σ 2 k) q (cp I4 115 116 75) := ⟨(congrFun ((g5 118 (by decide)).trans (f4.1 118 (by decide) (by decide) (by decide) (by decide) (by decide))) k).trans (hM.1 k hk).1, fun i hi => by rw [g5 119 (by decide), g5 120 (by decide), f4.1 119 (by decide) (by decide) (by decide) (by decide) (by decide), f4.1 120 (by decide) (by decide) (by decide) (by decide) (by decide)]; exact (hM.1 k hk).2 i hi, hl.keep ((congrFun (g5 114 (by decide)) 16).trans (f4.2.1 16 (by unfold fkR; omega))) (fun a a1 a2 => (g5 a (by omega)).trans (f4.1 a (by omega) (by omega) (by omega) (by omega) (by omega)))⟩
                    have c9 : σ 4 1 0 ≤ 9999 := hB.2.1.2.1
                    have w4 := hM.2.1.1 k hk
                    have e15b : (cp I4 115 116 75) 115 = I 115 := (g5 115 (by decide)).trans e15
                    have row4 : (cp I4 115 116 75) 115 k = nI (σ 3 k 0) ∧ (cp I4 115 116 75) 115 (12 + k) = nI (σ 3 k 1) ∧ (cp I4 115 116 75) 115 (24 + k) = nI (σ 3 k 2) ∧ (cp I4 115 116 75) 115 (60 + k) = nI (σ 3 k 3) ∧ (cp I4 115 116 75) 115 (36 + k) = nI (σ 3 k 4) ∧ (cp I4 115 116 75) 115 (48 + k) = nI (σ 3 k 5) := by rw [e15b]; exact ⟨w4.1, w4.2.1, w4.2.2.1, w4.2.2.2.2.2, w4.2.2.2.1, w4.2.2.2.2.1⟩
                    refine E_zN_ne (a := 1) (tgt := 52) dX12_tried_44 (by decide) (by decide) (fun cw44 => ?_) (fun cw44 => absurd cw44 (by omega))
                    refine E_aload_n dX12_tried_52 rfl ?_
                    refine E_getR dX12_tried_53 f_X12_7 rfl (Nat.lt_of_lt_of_le (by decide) hN) rfl (hR _ _ _ rfl) ?_
                    refine E_aload_n dX12_tried_56 rfl ?_
                    refine E_getR dX12_tried_57 f_X12_13 rfl (Nat.lt_of_lt_of_le (by decide) hN) rfl (hR _ _ _ rfl) ?_
                    refine E_callS (As := [_, _]) (kc' := 0) (ks' := 0) (kc := 0) (ks := 0) dX12_tried_60 ok_X12_copies w_X12_346 st_X12_copies rfl rfl rfl (Nat.le_of_ble_eq_true rfl) (Nat.le_of_ble_eq_true rfl) (Nat.le_refl _) (m_copies rfl rfl (Nat.lt_of_lt_of_le (by decide) hN) (Nat.lt_of_lt_of_le (by decide) hN) (by decide) ?_)
                    refine E_aload_n dX12_tried_63 rfl ?_
                    refine E_iload_n dX12_tried_64 rfl ?_
                    refine E_callV (As := [_]) (ci := 11) (kc' := 0) (ks' := 0) (kc := 0) (ks := 0) dX12_tried_65 ok_X12_draws w_X12_343 i_X12_draws s_X12_draws rfl (by decide) rfl (Nat.lt_of_lt_of_le (by decide) hN) rfl rfl rfl (Nat.le_of_ble_eq_true rfl) (Nat.le_of_ble_eq_true rfl) (Nat.le_refl _) (m_draws (d := 893) (k := k) (c0 := σ 4 1 0) (sc := σ 4 0 0) (l := σ 4 2 0) (f := r.2.2) (s := σ 3 k) hN hR hk hq (hB.1 k hk).1 a4 (fun i hi => a5 i hi) hX4 (bgD_ok hB hk) row4 (by rw [e15b]; exact hM.2.1.2.1) (by rw [e15b]; exact hM.2.1.2.2.1) c9 hB.2.1.2.2 (by rw [e15b]; exact hM.2.1.2.2.2) ((congrFun (g5 114 (by decide)) 34).trans n4) (fun j hj => (congrFun (g5 135 (by decide)) j).trans (i4 j hj)) (fun I6 f6 d6 l6 b6 => ?_))
                    revert hQ d6 l6 b6
                    show _ → _ → _ → _ → E g mX12_tried _ _ _ _ _ _ _ _ _ _ _
                    rw [show rnS q k (σ 0 k 0) (σ 1 k) (σ 2 k) r.2.2 r.2.1 0 (bgD (σ 3 k) (σ 4 0 0)) (σ 4 2 0) (if σ 3 k 5 = 0 then -2 else -3) = rnQ q σ k r from rfl]
                    generalize rnQ q σ k r = o
                    intro hQ d6 l6 b6
                    refine E_iload_n dX12_tried_68 rfl ?_
                    refine E_tin (tgt := 125) dX12_tried_69 (by decide) (by decide) rfl (by decide) ?_
                    refine E_aload_n dX12_tried_125 rfl ?_
                    refine E_getI dX12_tried_126 f_X12_328 rfl (Nat.lt_of_lt_of_le (by decide) hN) rfl ?_
                    refine E.top (b6) ?_
                    refine E_istore dX12_tried_129 (Nat.le_of_ble_eq_true rfl) ?_
                    refine E_goto (tgt := 172) dX12_tried_131 (by decide) ?_
                    refine E_aload_n dX12_tried_172 rfl ?_
                    refine E_getR dX12_tried_173 f_X12_13 rfl (Nat.lt_of_lt_of_le (by decide) hN) rfl (hR _ _ _ rfl) ?_
                    refine E_aload_n dX12_tried_176 rfl ?_
                    refine E_getR dX12_tried_177 f_X12_7 rfl (Nat.lt_of_lt_of_le (by decide) hN) rfl (hR _ _ _ rfl) ?_
                    refine E_callS (As := [_, _]) (kc' := 0) (ks' := 0) (kc := 0) (ks := 0) dX12_tried_180 ok_X12_copies w_X12_346 st_X12_copies rfl rfl rfl (Nat.le_of_ble_eq_true rfl) (Nat.le_of_ble_eq_true rfl) (Nat.le_refl _) (m_copies rfl rfl (Nat.lt_of_lt_of_le (by decide) hN) (Nat.lt_of_lt_of_le (by decide) hN) (by decide) ?_)
                    refine E_iload dX12_tried_183 rfl ?_
                    refine E_iret dX12_tried_185 rfl ?_
                    have far : ∀ x, x ≠ 114 → x ≠ 115 → x ≠ 116 → x ≠ 133 → x ≠ 134 → x ≠ 135 → x ≠ 136 → x ≠ 137 → x ≠ 138 → cp I6 116 115 75 x = I x := fun x c1 c2 c3 c4 c5 c6 c7 c8 c9 => (show cp I6 116 115 75 x = I6 x from funext fun y => if_neg (fun z => c2 z.1)).trans ((f6.1 x c1 c2 c4 c5).trans ((g5 x c3).trans (f4.1 x c1 c6 c7 c8 c9)))
                    have f14 : ∀ j, j ≠ 40 → j ≠ 41 → j ≠ 42 → cp I6 116 115 75 114 j = I4 114 j := fun j c1 c2 c3 => (show cp I6 116 115 75 114 j = I6 114 j from if_neg (fun z => absurd z.1 (by decide))).trans ((f6.2.1 j c1 c2 c3).trans (congrFun (g5 114 (by decide)) j))
                    have f15 : ∀ y, y < 75 → cp I6 116 115 75 115 y = I 115 y := fun y hy => (if_pos ⟨rfl, hy⟩).trans ((congrFun (f6.1 116 (by decide) (by decide) (by decide) (by decide)) y).trans (h5 y hy))
                    obtain ⟨m1', ⟨k0, k1, k2, k3⟩, m3, m4, m5, m6⟩ := hM
                    refine hQ _ J ⟨fun i hi => ?_, ⟨fun i hi => ?_, ?_, ?_, ?_⟩, fun z => ?_, ⟨?_, ?_⟩, fun j hj => absurd hj (Nat.not_lt_zero j), fun j => ?_⟩ (fun a a1 => far a (by omega) (by omega) (by omega) (by omega) (by omega) (by omega) (by omega) (by omega) (by omega)) ((f14 16 (by decide) (by decide) (by decide)).trans (f4.2.1 16 (by unfold fkR; omega))) (fun a a1 a2 => far a (by omega) (by omega) (by omega) (by omega) (by omega) (by omega) (by omega) (by omega) (by omega))
                    · rw [far 118 (by decide) (by decide) (by decide) (by decide) (by decide) (by decide) (by decide) (by decide) (by decide), far 119 (by decide) (by decide) (by decide) (by decide) (by decide) (by decide) (by decide) (by decide) (by decide), far 120 (by decide) (by decide) (by decide) (by decide) (by decide) (by decide) (by decide) (by decide) (by decide)]
                      exact m1' i hi
                    · rw [f15 i (by omega), f15 (12 + i) (by omega), f15 (24 + i) (by omega), f15 (36 + i) (by omega), f15 (48 + i) (by omega), f15 (60 + i) (by omega)]
                      exact k0 i hi
                    · rw [f15 72 (by decide)]
                      exact k1
                    · rw [f15 73 (by decide)]
                      exact k2
                    · rw [f15 74 (by decide)]
                      exact k3
                    · rw [far 117 (by decide) (by decide) (by decide) (by decide) (by decide) (by decide) (by decide) (by decide) (by decide)]
                      exact m3 z
                    · exact (f14 7 (by decide) (by decide) (by decide)).trans f4.2.2
                    · exact (f14 58 (by decide) (by decide) (by decide)).trans ((f4.2.1 58 (by unfold fkR; omega)).trans m4.2)
                    · rw [far 140 (by decide) (by decide) (by decide) (by decide) (by decide) (by decide) (by decide) (by decide) (by decide)]
                      exact m6 j
                · skip
                  exact absurd rfl (z _ (by omega) (by omega))
              · skip
                exact absurd rfl (z _ (by omega) (by omega))
            · skip
              exact absurd (tk_of hk h0) z
          · skip
            rw [nI_clamp (n := 2) (by decide)] at hQ
            refine E_aload_n dX12_tried_0 rfl ?_
            refine E_iload_n dX12_tried_1 rfl ?_
            refine E_callV (As := [_]) (ci := 11) (kc' := 0) (ks' := 0) (kc := 0) (ks := 0) dX12_tried_2 ok_X12_isTold w_X12_340 i_X12_isTold s_X12_isTold rfl (by decide) rfl (Nat.lt_of_lt_of_le (by decide) hN) rfl rfl rfl (Nat.le_of_ble_eq_true rfl) (Nat.le_of_ble_eq_true rfl) (Nat.le_refl _) (M_isTold (d := 898) hB hM hN hR (fun j hj e hj0 => ?_) (fun z => ?_))
            · skip
              refine E_zN_eq (a := 1) (tgt := 36) dX12_tried_5 (by decide) (by decide) (fun cw5 => absurd cw5 (by omega)) (fun cw5 => ?_)
              refine E_iload_n dX12_tried_8 rfl ?_
              refine E_ic (nI 1) dX12_tried_9 (by decide) ?_
              refine E_bp (nI 60) dX12_tried_10 (by decide) ?_
              refine E_callS (As := [_, _, _]) (kc' := 0) (ks' := 0) (kc := 0) (ks := 0) dX12_tried_12 ok_X12_in w_X12_124 st_X12_in rfl rfl rfl (Nat.le_of_ble_eq_true rfl) (Nat.le_of_ble_eq_true rfl) (Nat.le_refl _) (M_in (x := nI m) (by decide) (by decide) (fun _ _ _ _ => ?_) (fun z => ?_))
              · skip
                refine E_zN_eq (a := 1) (tgt := 36) dX12_tried_15 (by decide) (by decide) (fun cw15 => absurd cw15 (by omega)) (fun cw15 => ?_)
                refine E_iload_n dX12_tried_18 rfl ?_
                refine E_ic (nI 0) dX12_tried_19 (by decide) ?_
                refine E_bp (nI 7) dX12_tried_20 (by decide) ?_
                refine E_callS (As := [_, _, _]) (kc' := 0) (ks' := 0) (kc := 0) (ks := 0) dX12_tried_22 ok_X12_in w_X12_124 st_X12_in rfl rfl rfl (Nat.le_of_ble_eq_true rfl) (Nat.le_of_ble_eq_true rfl) (Nat.le_refl _) (M_in (x := nI 2) (by decide) (by decide) (fun _ _ _ _ => ?_) (fun z => ?_))
                · skip
                  refine E_zN_eq (a := 1) (tgt := 36) dX12_tried_25 (by decide) (by decide) (fun cw25 => absurd cw25 (by omega)) (fun cw25 => ?_)
                  refine E_iload_n dX12_tried_28 rfl ?_
                  refine E_aload_n dX12_tried_29 rfl ?_
                  refine E_getI dX12_tried_30 f_X12_128 rfl (Nat.lt_of_lt_of_le (by decide) hN) rfl ?_
                  refine E.top (hM.2.2.2.1.1) ?_
                  refine E_cN_le (a := m) (b := σ 9 0 0) (tgt := 38) dX12_tried_33 (by omega) (by omega) (by decide) (fun cw33 => ?_) (fun cw33 => absurd cw33 (by omega))
                  refine E_aload_n dX12_tried_38 rfl ?_
                  refine E_iload_n dX12_tried_39 rfl ?_
                  refine E_ic (nI 0) dX12_tried_40 (by decide) ?_
                  refine E_callV (As := [_, _]) (ci := 11) (kc' := 0) (ks' := 0) (kc := 0) (ks := 0) dX12_tried_41 ok_X12_readsRow w_X12_276 i_X12_readsRow s_X12_readsRow rfl (by decide) rfl (Nat.lt_of_lt_of_le (by decide) hN) rfl rfl rfl (Nat.le_of_ble_eq_true rfl) (Nat.le_of_ble_eq_true rfl) (Nat.le_refl _) (m_readsRow0 (d := 895) hN hR hc m1 (by omega) (fun j hj => hM.2.2.2.2.1 j (by omega)) ?_)
                  cases hr : rdS 0 96 m (ccS (tpS σ) m) with
                  | inl z =>
                    have hQ : ∀ (I' : IM) (J' : JM), MR (u0 σ) I' → (∀ a, a < 114 → I' a = I a) → I' 114 16 = I 114 16 → (∀ a, 128 ≤ a → a ≤ 132 → I' a = I a) → Q (some (.int (z))) n I' J' R := by rw [hr] at hQ; exact hQ
                    intro I4 f4 e4
                    refine E_zN_ne (a := 0) (tgt := 52) dX12_tried_44 (by decide) (by decide) (fun cw44 => absurd cw44 (by omega)) (fun cw44 => ?_)
                    refine E_aload_n dX12_tried_47 rfl ?_
                    refine E_getI dX12_tried_48 f_X12_146 rfl (Nat.lt_of_lt_of_le (by decide) hN) rfl ?_
                    refine E.top (e4) ?_
                    exact E_iret dX12_tried_51 rfl (hQ I4 J ⟨fun i hi => by rw [f4.1 118 (by decide) (by decide) (by decide) (by decide) (by decide), f4.1 119 (by decide) (by decide) (by decide) (by decide) (by decide), f4.1 120 (by decide) (by decide) (by decide) (by decide) (by decide)]; exact hM.1 i hi, by rw [f4.1 115 (by decide) (by decide) (by decide) (by decide) (by decide)]; exact hM.2.1, fun z => by rw [f4.1 117 (by decide) (by decide) (by decide) (by decide) (by decide)]; exact hM.2.2.1 z, ⟨f4.2.2, (f4.2.1 58 (by unfold fkR; omega)).trans hM.2.2.2.1.2⟩, fun j hj => absurd hj (Nat.not_lt_zero j), fun j => by rw [f4.1 140 (by decide) (by decide) (by decide) (by decide) (by decide)]; exact hM.2.2.2.2.2 j⟩ (fun a a1 => f4.1 a (by omega) (by omega) (by omega) (by omega) (by omega)) (f4.2.1 16 (by unfold fkR; omega)) (fun a a1 a2 => f4.1 a (by omega) (by omega) (by omega) (by omega) (by omega)))
                  | inr r =>
                    have hQ : ∀ (I' : IM) (J' : JM), MR (u0 σ) I' → (∀ a, a < 114 → I' a = I a) → I' 114 16 = I 114 16 → (∀ a, 128 ≤ a → a ≤ 132 → I' a = I a) → Q (some (.int (askR σ k 2 (rnQ q σ k r)))) n I' J' R := by rw [hr] at hQ; exact hQ
                    obtain ⟨⟨a1, a2, a3, a4, a5⟩, _⟩ := rd_ok hc hr
                    intro I4 f4 n4 i4
                    have e15 : I4 115 = I 115 := f4.1 115 (by decide) (by decide) (by decide) (by decide) (by decide)
                    have g5 : ∀ x, x ≠ 116 → (cp I4 115 116 75) x = I4 x := fun x hx => funext fun y => if_neg (fun z => hx z.1)
                    have h5 : ∀ y, y < 75 → (cp I4 115 116 75) 116 y = I 115 y := fun y hy => (if_pos ⟨rfl, hy⟩).trans (congrFun e15 y)
                    have hX4 : MCr k (σ 0 k 0) (σ 1 k) (σ 2 k) q (cp I4 115 116 75) := ⟨(congrFun ((g5 118 (by decide)).trans (f4.1 118 (by decide) (by decide) (by decide) (by decide) (by decide))) k).trans (hM.1 k hk).1, fun i hi => by rw [g5 119 (by decide), g5 120 (by decide), f4.1 119 (by decide) (by decide) (by decide) (by decide) (by decide), f4.1 120 (by decide) (by decide) (by decide) (by decide) (by decide)]; exact (hM.1 k hk).2 i hi, hl.keep ((congrFun (g5 114 (by decide)) 16).trans (f4.2.1 16 (by unfold fkR; omega))) (fun a a1 a2 => (g5 a (by omega)).trans (f4.1 a (by omega) (by omega) (by omega) (by omega) (by omega)))⟩
                    have c9 : σ 4 1 0 ≤ 9999 := hB.2.1.2.1
                    have w4 := hM.2.1.1 k hk
                    have e15b : (cp I4 115 116 75) 115 = I 115 := (g5 115 (by decide)).trans e15
                    have row4 : (cp I4 115 116 75) 115 k = nI (σ 3 k 0) ∧ (cp I4 115 116 75) 115 (12 + k) = nI (σ 3 k 1) ∧ (cp I4 115 116 75) 115 (24 + k) = nI (σ 3 k 2) ∧ (cp I4 115 116 75) 115 (60 + k) = nI (σ 3 k 3) ∧ (cp I4 115 116 75) 115 (36 + k) = nI (σ 3 k 4) ∧ (cp I4 115 116 75) 115 (48 + k) = nI (σ 3 k 5) := by rw [e15b]; exact ⟨w4.1, w4.2.1, w4.2.2.1, w4.2.2.2.2.2, w4.2.2.2.1, w4.2.2.2.2.1⟩
                    refine E_zN_ne (a := 1) (tgt := 52) dX12_tried_44 (by decide) (by decide) (fun cw44 => ?_) (fun cw44 => absurd cw44 (by omega))
                    refine E_aload_n dX12_tried_52 rfl ?_
                    refine E_getR dX12_tried_53 f_X12_7 rfl (Nat.lt_of_lt_of_le (by decide) hN) rfl (hR _ _ _ rfl) ?_
                    refine E_aload_n dX12_tried_56 rfl ?_
                    refine E_getR dX12_tried_57 f_X12_13 rfl (Nat.lt_of_lt_of_le (by decide) hN) rfl (hR _ _ _ rfl) ?_
                    refine E_callS (As := [_, _]) (kc' := 0) (ks' := 0) (kc := 0) (ks := 0) dX12_tried_60 ok_X12_copies w_X12_346 st_X12_copies rfl rfl rfl (Nat.le_of_ble_eq_true rfl) (Nat.le_of_ble_eq_true rfl) (Nat.le_refl _) (m_copies rfl rfl (Nat.lt_of_lt_of_le (by decide) hN) (Nat.lt_of_lt_of_le (by decide) hN) (by decide) ?_)
                    refine E_aload_n dX12_tried_63 rfl ?_
                    refine E_iload_n dX12_tried_64 rfl ?_
                    refine E_callV (As := [_]) (ci := 11) (kc' := 0) (ks' := 0) (kc := 0) (ks := 0) dX12_tried_65 ok_X12_draws w_X12_343 i_X12_draws s_X12_draws rfl (by decide) rfl (Nat.lt_of_lt_of_le (by decide) hN) rfl rfl rfl (Nat.le_of_ble_eq_true rfl) (Nat.le_of_ble_eq_true rfl) (Nat.le_refl _) (m_draws (d := 893) (k := k) (c0 := σ 4 1 0) (sc := σ 4 0 0) (l := σ 4 2 0) (f := r.2.2) (s := σ 3 k) hN hR hk hq (hB.1 k hk).1 a4 (fun i hi => a5 i hi) hX4 (bgD_ok hB hk) row4 (by rw [e15b]; exact hM.2.1.2.1) (by rw [e15b]; exact hM.2.1.2.2.1) c9 hB.2.1.2.2 (by rw [e15b]; exact hM.2.1.2.2.2) ((congrFun (g5 114 (by decide)) 34).trans n4) (fun j hj => (congrFun (g5 135 (by decide)) j).trans (i4 j hj)) (fun I6 f6 d6 l6 b6 => ?_))
                    revert hQ d6 l6 b6
                    show _ → _ → _ → _ → E g mX12_tried _ _ _ _ _ _ _ _ _ _ _
                    rw [show rnS q k (σ 0 k 0) (σ 1 k) (σ 2 k) r.2.2 r.2.1 0 (bgD (σ 3 k) (σ 4 0 0)) (σ 4 2 0) (if σ 3 k 5 = 0 then -2 else -3) = rnQ q σ k r from rfl]
                    generalize rnQ q σ k r = o
                    intro hQ d6 l6 b6
                    refine E_iload_n dX12_tried_68 rfl ?_
                    refine E_tin (tgt := 155) dX12_tried_69 (by decide) (by decide) rfl (by decide) ?_
                    refine E_aload_n dX12_tried_155 rfl ?_
                    refine E_getR dX12_tried_156 f_X12_7 rfl (Nat.lt_of_lt_of_le (by decide) hN) rfl (hR _ _ _ rfl) ?_
                    refine E_ic (nI 0) dX12_tried_159 (by decide) ?_
                    refine E_bp (nI 12) dX12_tried_160 (by decide) ?_
                    refine E_iload_n dX12_tried_162 rfl ?_
                    refine E_ic (nI 2) dX12_tried_163 (by decide) ?_
                    refine E_isub dX12_tried_164 ?_
                    refine E.top (pk_sub (a := 2) (b := 2) (by decide)) ?_
                    refine E.top ((show nI (2 - 2) = nI 0 from rfl)) ?_
                    refine E_imul dX12_tried_165 ?_
                    refine E.top (pk_mul 12 0) ?_
                    refine E.top ((show nI (12 * 0) = nI 0 from rfl)) ?_
                    refine E_iadd dX12_tried_166 ?_
                    refine E.top (nI_add 0 0) ?_
                    refine E.top ((show nI (0 + 0) = nI 0 from rfl)) ?_
                    refine E_iload_n dX12_tried_167 rfl ?_
                    refine E_iadd dX12_tried_168 ?_
                    refine E.top (nI_add 0 k) ?_
                    refine E.top (congrArg nI (Nat.zero_add k)) ?_
                    refine E_ialdN dX12_tried_169 rfl (Nat.lt_of_lt_of_le (by decide) hN) (by omega) ?_
                    refine E.top (d6.1.1) ?_
                    refine E_istore dX12_tried_170 (Nat.le_of_ble_eq_true rfl) ?_
                    refine E_aload_n dX12_tried_172 rfl ?_
                    refine E_getR dX12_tried_173 f_X12_13 rfl (Nat.lt_of_lt_of_le (by decide) hN) rfl (hR _ _ _ rfl) ?_
                    refine E_aload_n dX12_tried_176 rfl ?_
                    refine E_getR dX12_tried_177 f_X12_7 rfl (Nat.lt_of_lt_of_le (by decide) hN) rfl (hR _ _ _ rfl) ?_
                    refine E_callS (As := [_, _]) (kc' := 0) (ks' := 0) (kc := 0) (ks := 0) dX12_tried_180 ok_X12_copies w_X12_346 st_X12_copies rfl rfl rfl (Nat.le_of_ble_eq_true rfl) (Nat.le_of_ble_eq_true rfl) (Nat.le_refl _) (m_copies rfl rfl (Nat.lt_of_lt_of_le (by decide) hN) (Nat.lt_of_lt_of_le (by decide) hN) (by decide) ?_)
                    refine E_iload dX12_tried_183 rfl ?_
                    refine E_iret dX12_tried_185 rfl ?_
                    have far : ∀ x, x ≠ 114 → x ≠ 115 → x ≠ 116 → x ≠ 133 → x ≠ 134 → x ≠ 135 → x ≠ 136 → x ≠ 137 → x ≠ 138 → cp I6 116 115 75 x = I x := fun x c1 c2 c3 c4 c5 c6 c7 c8 c9 => (show cp I6 116 115 75 x = I6 x from funext fun y => if_neg (fun z => c2 z.1)).trans ((f6.1 x c1 c2 c4 c5).trans ((g5 x c3).trans (f4.1 x c1 c6 c7 c8 c9)))
                    have f14 : ∀ j, j ≠ 40 → j ≠ 41 → j ≠ 42 → cp I6 116 115 75 114 j = I4 114 j := fun j c1 c2 c3 => (show cp I6 116 115 75 114 j = I6 114 j from if_neg (fun z => absurd z.1 (by decide))).trans ((f6.2.1 j c1 c2 c3).trans (congrFun (g5 114 (by decide)) j))
                    have f15 : ∀ y, y < 75 → cp I6 116 115 75 115 y = I 115 y := fun y hy => (if_pos ⟨rfl, hy⟩).trans ((congrFun (f6.1 116 (by decide) (by decide) (by decide) (by decide)) y).trans (h5 y hy))
                    obtain ⟨m1', ⟨k0, k1, k2, k3⟩, m3, m4, m5, m6⟩ := hM
                    refine hQ _ J ⟨fun i hi => ?_, ⟨fun i hi => ?_, ?_, ?_, ?_⟩, fun z => ?_, ⟨?_, ?_⟩, fun j hj => absurd hj (Nat.not_lt_zero j), fun j => ?_⟩ (fun a a1 => far a (by omega) (by omega) (by omega) (by omega) (by omega) (by omega) (by omega) (by omega) (by omega)) ((f14 16 (by decide) (by decide) (by decide)).trans (f4.2.1 16 (by unfold fkR; omega))) (fun a a1 a2 => far a (by omega) (by omega) (by omega) (by omega) (by omega) (by omega) (by omega) (by omega) (by omega))
                    · rw [far 118 (by decide) (by decide) (by decide) (by decide) (by decide) (by decide) (by decide) (by decide) (by decide), far 119 (by decide) (by decide) (by decide) (by decide) (by decide) (by decide) (by decide) (by decide) (by decide), far 120 (by decide) (by decide) (by decide) (by decide) (by decide) (by decide) (by decide) (by decide) (by decide)]
                      exact m1' i hi
                    · rw [f15 i (by omega), f15 (12 + i) (by omega), f15 (24 + i) (by omega), f15 (36 + i) (by omega), f15 (48 + i) (by omega), f15 (60 + i) (by omega)]
                      exact k0 i hi
                    · rw [f15 72 (by decide)]
                      exact k1
                    · rw [f15 73 (by decide)]
                      exact k2
                    · rw [f15 74 (by decide)]
                      exact k3
                    · rw [far 117 (by decide) (by decide) (by decide) (by decide) (by decide) (by decide) (by decide) (by decide) (by decide)]
                      exact m3 z
                    · exact (f14 7 (by decide) (by decide) (by decide)).trans f4.2.2
                    · exact (f14 58 (by decide) (by decide) (by decide)).trans ((f4.2.1 58 (by unfold fkR; omega)).trans m4.2)
                    · rw [far 140 (by decide) (by decide) (by decide) (by decide) (by decide) (by decide) (by decide) (by decide) (by decide)]
                      exact m6 j
                · skip
                  exact absurd rfl (z _ (by omega) (by omega))
              · skip
                exact absurd rfl (z _ (by omega) (by omega))
            · skip
              exact absurd (tk_of hk h0) z
          · skip
            rw [nI_clamp (n := 3) (by decide)] at hQ
            refine E_aload_n dX12_tried_0 rfl ?_
            refine E_iload_n dX12_tried_1 rfl ?_
            refine E_callV (As := [_]) (ci := 11) (kc' := 0) (ks' := 0) (kc := 0) (ks := 0) dX12_tried_2 ok_X12_isTold w_X12_340 i_X12_isTold s_X12_isTold rfl (by decide) rfl (Nat.lt_of_lt_of_le (by decide) hN) rfl rfl rfl (Nat.le_of_ble_eq_true rfl) (Nat.le_of_ble_eq_true rfl) (Nat.le_refl _) (M_isTold (d := 898) hB hM hN hR (fun j hj e hj0 => ?_) (fun z => ?_))
            · skip
              refine E_zN_eq (a := 1) (tgt := 36) dX12_tried_5 (by decide) (by decide) (fun cw5 => absurd cw5 (by omega)) (fun cw5 => ?_)
              refine E_iload_n dX12_tried_8 rfl ?_
              refine E_ic (nI 1) dX12_tried_9 (by decide) ?_
              refine E_bp (nI 60) dX12_tried_10 (by decide) ?_
              refine E_callS (As := [_, _, _]) (kc' := 0) (ks' := 0) (kc := 0) (ks := 0) dX12_tried_12 ok_X12_in w_X12_124 st_X12_in rfl rfl rfl (Nat.le_of_ble_eq_true rfl) (Nat.le_of_ble_eq_true rfl) (Nat.le_refl _) (M_in (x := nI m) (by decide) (by decide) (fun _ _ _ _ => ?_) (fun z => ?_))
              · skip
                refine E_zN_eq (a := 1) (tgt := 36) dX12_tried_15 (by decide) (by decide) (fun cw15 => absurd cw15 (by omega)) (fun cw15 => ?_)
                refine E_iload_n dX12_tried_18 rfl ?_
                refine E_ic (nI 0) dX12_tried_19 (by decide) ?_
                refine E_bp (nI 7) dX12_tried_20 (by decide) ?_
                refine E_callS (As := [_, _, _]) (kc' := 0) (ks' := 0) (kc := 0) (ks := 0) dX12_tried_22 ok_X12_in w_X12_124 st_X12_in rfl rfl rfl (Nat.le_of_ble_eq_true rfl) (Nat.le_of_ble_eq_true rfl) (Nat.le_refl _) (M_in (x := nI 3) (by decide) (by decide) (fun _ _ _ _ => ?_) (fun z => ?_))
                · skip
                  refine E_zN_eq (a := 1) (tgt := 36) dX12_tried_25 (by decide) (by decide) (fun cw25 => absurd cw25 (by omega)) (fun cw25 => ?_)
                  refine E_iload_n dX12_tried_28 rfl ?_
                  refine E_aload_n dX12_tried_29 rfl ?_
                  refine E_getI dX12_tried_30 f_X12_128 rfl (Nat.lt_of_lt_of_le (by decide) hN) rfl ?_
                  refine E.top (hM.2.2.2.1.1) ?_
                  refine E_cN_le (a := m) (b := σ 9 0 0) (tgt := 38) dX12_tried_33 (by omega) (by omega) (by decide) (fun cw33 => ?_) (fun cw33 => absurd cw33 (by omega))
                  refine E_aload_n dX12_tried_38 rfl ?_
                  refine E_iload_n dX12_tried_39 rfl ?_
                  refine E_ic (nI 0) dX12_tried_40 (by decide) ?_
                  refine E_callV (As := [_, _]) (ci := 11) (kc' := 0) (ks' := 0) (kc := 0) (ks := 0) dX12_tried_41 ok_X12_readsRow w_X12_276 i_X12_readsRow s_X12_readsRow rfl (by decide) rfl (Nat.lt_of_lt_of_le (by decide) hN) rfl rfl rfl (Nat.le_of_ble_eq_true rfl) (Nat.le_of_ble_eq_true rfl) (Nat.le_refl _) (m_readsRow0 (d := 895) hN hR hc m1 (by omega) (fun j hj => hM.2.2.2.2.1 j (by omega)) ?_)
                  cases hr : rdS 0 96 m (ccS (tpS σ) m) with
                  | inl z =>
                    have hQ : ∀ (I' : IM) (J' : JM), MR (u0 σ) I' → (∀ a, a < 114 → I' a = I a) → I' 114 16 = I 114 16 → (∀ a, 128 ≤ a → a ≤ 132 → I' a = I a) → Q (some (.int (z))) n I' J' R := by rw [hr] at hQ; exact hQ
                    intro I4 f4 e4
                    refine E_zN_ne (a := 0) (tgt := 52) dX12_tried_44 (by decide) (by decide) (fun cw44 => absurd cw44 (by omega)) (fun cw44 => ?_)
                    refine E_aload_n dX12_tried_47 rfl ?_
                    refine E_getI dX12_tried_48 f_X12_146 rfl (Nat.lt_of_lt_of_le (by decide) hN) rfl ?_
                    refine E.top (e4) ?_
                    exact E_iret dX12_tried_51 rfl (hQ I4 J ⟨fun i hi => by rw [f4.1 118 (by decide) (by decide) (by decide) (by decide) (by decide), f4.1 119 (by decide) (by decide) (by decide) (by decide) (by decide), f4.1 120 (by decide) (by decide) (by decide) (by decide) (by decide)]; exact hM.1 i hi, by rw [f4.1 115 (by decide) (by decide) (by decide) (by decide) (by decide)]; exact hM.2.1, fun z => by rw [f4.1 117 (by decide) (by decide) (by decide) (by decide) (by decide)]; exact hM.2.2.1 z, ⟨f4.2.2, (f4.2.1 58 (by unfold fkR; omega)).trans hM.2.2.2.1.2⟩, fun j hj => absurd hj (Nat.not_lt_zero j), fun j => by rw [f4.1 140 (by decide) (by decide) (by decide) (by decide) (by decide)]; exact hM.2.2.2.2.2 j⟩ (fun a a1 => f4.1 a (by omega) (by omega) (by omega) (by omega) (by omega)) (f4.2.1 16 (by unfold fkR; omega)) (fun a a1 a2 => f4.1 a (by omega) (by omega) (by omega) (by omega) (by omega)))
                  | inr r =>
                    have hQ : ∀ (I' : IM) (J' : JM), MR (u0 σ) I' → (∀ a, a < 114 → I' a = I a) → I' 114 16 = I 114 16 → (∀ a, 128 ≤ a → a ≤ 132 → I' a = I a) → Q (some (.int (askR σ k 3 (rnQ q σ k r)))) n I' J' R := by rw [hr] at hQ; exact hQ
                    obtain ⟨⟨a1, a2, a3, a4, a5⟩, _⟩ := rd_ok hc hr
                    intro I4 f4 n4 i4
                    have e15 : I4 115 = I 115 := f4.1 115 (by decide) (by decide) (by decide) (by decide) (by decide)
                    have g5 : ∀ x, x ≠ 116 → (cp I4 115 116 75) x = I4 x := fun x hx => funext fun y => if_neg (fun z => hx z.1)
                    have h5 : ∀ y, y < 75 → (cp I4 115 116 75) 116 y = I 115 y := fun y hy => (if_pos ⟨rfl, hy⟩).trans (congrFun e15 y)
                    have hX4 : MCr k (σ 0 k 0) (σ 1 k) (σ 2 k) q (cp I4 115 116 75) := ⟨(congrFun ((g5 118 (by decide)).trans (f4.1 118 (by decide) (by decide) (by decide) (by decide) (by decide))) k).trans (hM.1 k hk).1, fun i hi => by rw [g5 119 (by decide), g5 120 (by decide), f4.1 119 (by decide) (by decide) (by decide) (by decide) (by decide), f4.1 120 (by decide) (by decide) (by decide) (by decide) (by decide)]; exact (hM.1 k hk).2 i hi, hl.keep ((congrFun (g5 114 (by decide)) 16).trans (f4.2.1 16 (by unfold fkR; omega))) (fun a a1 a2 => (g5 a (by omega)).trans (f4.1 a (by omega) (by omega) (by omega) (by omega) (by omega)))⟩
                    have c9 : σ 4 1 0 ≤ 9999 := hB.2.1.2.1
                    have w4 := hM.2.1.1 k hk
                    have e15b : (cp I4 115 116 75) 115 = I 115 := (g5 115 (by decide)).trans e15
                    have row4 : (cp I4 115 116 75) 115 k = nI (σ 3 k 0) ∧ (cp I4 115 116 75) 115 (12 + k) = nI (σ 3 k 1) ∧ (cp I4 115 116 75) 115 (24 + k) = nI (σ 3 k 2) ∧ (cp I4 115 116 75) 115 (60 + k) = nI (σ 3 k 3) ∧ (cp I4 115 116 75) 115 (36 + k) = nI (σ 3 k 4) ∧ (cp I4 115 116 75) 115 (48 + k) = nI (σ 3 k 5) := by rw [e15b]; exact ⟨w4.1, w4.2.1, w4.2.2.1, w4.2.2.2.2.2, w4.2.2.2.1, w4.2.2.2.2.1⟩
                    refine E_zN_ne (a := 1) (tgt := 52) dX12_tried_44 (by decide) (by decide) (fun cw44 => ?_) (fun cw44 => absurd cw44 (by omega))
                    refine E_aload_n dX12_tried_52 rfl ?_
                    refine E_getR dX12_tried_53 f_X12_7 rfl (Nat.lt_of_lt_of_le (by decide) hN) rfl (hR _ _ _ rfl) ?_
                    refine E_aload_n dX12_tried_56 rfl ?_
                    refine E_getR dX12_tried_57 f_X12_13 rfl (Nat.lt_of_lt_of_le (by decide) hN) rfl (hR _ _ _ rfl) ?_
                    refine E_callS (As := [_, _]) (kc' := 0) (ks' := 0) (kc := 0) (ks := 0) dX12_tried_60 ok_X12_copies w_X12_346 st_X12_copies rfl rfl rfl (Nat.le_of_ble_eq_true rfl) (Nat.le_of_ble_eq_true rfl) (Nat.le_refl _) (m_copies rfl rfl (Nat.lt_of_lt_of_le (by decide) hN) (Nat.lt_of_lt_of_le (by decide) hN) (by decide) ?_)
                    refine E_aload_n dX12_tried_63 rfl ?_
                    refine E_iload_n dX12_tried_64 rfl ?_
                    refine E_callV (As := [_]) (ci := 11) (kc' := 0) (ks' := 0) (kc := 0) (ks := 0) dX12_tried_65 ok_X12_draws w_X12_343 i_X12_draws s_X12_draws rfl (by decide) rfl (Nat.lt_of_lt_of_le (by decide) hN) rfl rfl rfl (Nat.le_of_ble_eq_true rfl) (Nat.le_of_ble_eq_true rfl) (Nat.le_refl _) (m_draws (d := 893) (k := k) (c0 := σ 4 1 0) (sc := σ 4 0 0) (l := σ 4 2 0) (f := r.2.2) (s := σ 3 k) hN hR hk hq (hB.1 k hk).1 a4 (fun i hi => a5 i hi) hX4 (bgD_ok hB hk) row4 (by rw [e15b]; exact hM.2.1.2.1) (by rw [e15b]; exact hM.2.1.2.2.1) c9 hB.2.1.2.2 (by rw [e15b]; exact hM.2.1.2.2.2) ((congrFun (g5 114 (by decide)) 34).trans n4) (fun j hj => (congrFun (g5 135 (by decide)) j).trans (i4 j hj)) (fun I6 f6 d6 l6 b6 => ?_))
                    revert hQ d6 l6 b6
                    show _ → _ → _ → _ → E g mX12_tried _ _ _ _ _ _ _ _ _ _ _
                    rw [show rnS q k (σ 0 k 0) (σ 1 k) (σ 2 k) r.2.2 r.2.1 0 (bgD (σ 3 k) (σ 4 0 0)) (σ 4 2 0) (if σ 3 k 5 = 0 then -2 else -3) = rnQ q σ k r from rfl]
                    generalize rnQ q σ k r = o
                    intro hQ d6 l6 b6
                    refine E_iload_n dX12_tried_68 rfl ?_
                    refine E_tin (tgt := 155) dX12_tried_69 (by decide) (by decide) rfl (by decide) ?_
                    refine E_aload_n dX12_tried_155 rfl ?_
                    refine E_getR dX12_tried_156 f_X12_7 rfl (Nat.lt_of_lt_of_le (by decide) hN) rfl (hR _ _ _ rfl) ?_
                    refine E_ic (nI 0) dX12_tried_159 (by decide) ?_
                    refine E_bp (nI 12) dX12_tried_160 (by decide) ?_
                    refine E_iload_n dX12_tried_162 rfl ?_
                    refine E_ic (nI 2) dX12_tried_163 (by decide) ?_
                    refine E_isub dX12_tried_164 ?_
                    refine E.top (pk_sub (a := 3) (b := 2) (by decide)) ?_
                    refine E.top ((show nI (3 - 2) = nI 1 from rfl)) ?_
                    refine E_imul dX12_tried_165 ?_
                    refine E.top (pk_mul 12 1) ?_
                    refine E.top ((show nI (12 * 1) = nI 12 from rfl)) ?_
                    refine E_iadd dX12_tried_166 ?_
                    refine E.top (nI_add 0 12) ?_
                    refine E.top ((show nI (0 + 12) = nI 12 from rfl)) ?_
                    refine E_iload_n dX12_tried_167 rfl ?_
                    refine E_iadd dX12_tried_168 ?_
                    refine E.top (nI_add 12 k) ?_
                    refine E_ialdN dX12_tried_169 rfl (Nat.lt_of_lt_of_le (by decide) hN) (by omega) ?_
                    refine E.top (d6.1.2.1) ?_
                    refine E_istore dX12_tried_170 (Nat.le_of_ble_eq_true rfl) ?_
                    refine E_aload_n dX12_tried_172 rfl ?_
                    refine E_getR dX12_tried_173 f_X12_13 rfl (Nat.lt_of_lt_of_le (by decide) hN) rfl (hR _ _ _ rfl) ?_
                    refine E_aload_n dX12_tried_176 rfl ?_
                    refine E_getR dX12_tried_177 f_X12_7 rfl (Nat.lt_of_lt_of_le (by decide) hN) rfl (hR _ _ _ rfl) ?_
                    refine E_callS (As := [_, _]) (kc' := 0) (ks' := 0) (kc := 0) (ks := 0) dX12_tried_180 ok_X12_copies w_X12_346 st_X12_copies rfl rfl rfl (Nat.le_of_ble_eq_true rfl) (Nat.le_of_ble_eq_true rfl) (Nat.le_refl _) (m_copies rfl rfl (Nat.lt_of_lt_of_le (by decide) hN) (Nat.lt_of_lt_of_le (by decide) hN) (by decide) ?_)
                    refine E_iload dX12_tried_183 rfl ?_
                    refine E_iret dX12_tried_185 rfl ?_
                    have far : ∀ x, x ≠ 114 → x ≠ 115 → x ≠ 116 → x ≠ 133 → x ≠ 134 → x ≠ 135 → x ≠ 136 → x ≠ 137 → x ≠ 138 → cp I6 116 115 75 x = I x := fun x c1 c2 c3 c4 c5 c6 c7 c8 c9 => (show cp I6 116 115 75 x = I6 x from funext fun y => if_neg (fun z => c2 z.1)).trans ((f6.1 x c1 c2 c4 c5).trans ((g5 x c3).trans (f4.1 x c1 c6 c7 c8 c9)))
                    have f14 : ∀ j, j ≠ 40 → j ≠ 41 → j ≠ 42 → cp I6 116 115 75 114 j = I4 114 j := fun j c1 c2 c3 => (show cp I6 116 115 75 114 j = I6 114 j from if_neg (fun z => absurd z.1 (by decide))).trans ((f6.2.1 j c1 c2 c3).trans (congrFun (g5 114 (by decide)) j))
                    have f15 : ∀ y, y < 75 → cp I6 116 115 75 115 y = I 115 y := fun y hy => (if_pos ⟨rfl, hy⟩).trans ((congrFun (f6.1 116 (by decide) (by decide) (by decide) (by decide)) y).trans (h5 y hy))
                    obtain ⟨m1', ⟨k0, k1, k2, k3⟩, m3, m4, m5, m6⟩ := hM
                    refine hQ _ J ⟨fun i hi => ?_, ⟨fun i hi => ?_, ?_, ?_, ?_⟩, fun z => ?_, ⟨?_, ?_⟩, fun j hj => absurd hj (Nat.not_lt_zero j), fun j => ?_⟩ (fun a a1 => far a (by omega) (by omega) (by omega) (by omega) (by omega) (by omega) (by omega) (by omega) (by omega)) ((f14 16 (by decide) (by decide) (by decide)).trans (f4.2.1 16 (by unfold fkR; omega))) (fun a a1 a2 => far a (by omega) (by omega) (by omega) (by omega) (by omega) (by omega) (by omega) (by omega) (by omega))
                    · rw [far 118 (by decide) (by decide) (by decide) (by decide) (by decide) (by decide) (by decide) (by decide) (by decide), far 119 (by decide) (by decide) (by decide) (by decide) (by decide) (by decide) (by decide) (by decide) (by decide), far 120 (by decide) (by decide) (by decide) (by decide) (by decide) (by decide) (by decide) (by decide) (by decide)]
                      exact m1' i hi
                    · rw [f15 i (by omega), f15 (12 + i) (by omega), f15 (24 + i) (by omega), f15 (36 + i) (by omega), f15 (48 + i) (by omega), f15 (60 + i) (by omega)]
                      exact k0 i hi
                    · rw [f15 72 (by decide)]
                      exact k1
                    · rw [f15 73 (by decide)]
                      exact k2
                    · rw [f15 74 (by decide)]
                      exact k3
                    · rw [far 117 (by decide) (by decide) (by decide) (by decide) (by decide) (by decide) (by decide) (by decide) (by decide)]
                      exact m3 z
                    · exact (f14 7 (by decide) (by decide) (by decide)).trans f4.2.2
                    · exact (f14 58 (by decide) (by decide) (by decide)).trans ((f4.2.1 58 (by unfold fkR; omega)).trans m4.2)
                    · rw [far 140 (by decide) (by decide) (by decide) (by decide) (by decide) (by decide) (by decide) (by decide) (by decide)]
                      exact m6 j
                · skip
                  exact absurd rfl (z _ (by omega) (by omega))
              · skip
                exact absurd rfl (z _ (by omega) (by omega))
            · skip
              exact absurd (tk_of hk h0) z
          · skip
            rw [nI_clamp (n := 4) (by decide)] at hQ
            refine E_aload_n dX12_tried_0 rfl ?_
            refine E_iload_n dX12_tried_1 rfl ?_
            refine E_callV (As := [_]) (ci := 11) (kc' := 0) (ks' := 0) (kc := 0) (ks := 0) dX12_tried_2 ok_X12_isTold w_X12_340 i_X12_isTold s_X12_isTold rfl (by decide) rfl (Nat.lt_of_lt_of_le (by decide) hN) rfl rfl rfl (Nat.le_of_ble_eq_true rfl) (Nat.le_of_ble_eq_true rfl) (Nat.le_refl _) (M_isTold (d := 898) hB hM hN hR (fun j hj e hj0 => ?_) (fun z => ?_))
            · skip
              refine E_zN_eq (a := 1) (tgt := 36) dX12_tried_5 (by decide) (by decide) (fun cw5 => absurd cw5 (by omega)) (fun cw5 => ?_)
              refine E_iload_n dX12_tried_8 rfl ?_
              refine E_ic (nI 1) dX12_tried_9 (by decide) ?_
              refine E_bp (nI 60) dX12_tried_10 (by decide) ?_
              refine E_callS (As := [_, _, _]) (kc' := 0) (ks' := 0) (kc := 0) (ks := 0) dX12_tried_12 ok_X12_in w_X12_124 st_X12_in rfl rfl rfl (Nat.le_of_ble_eq_true rfl) (Nat.le_of_ble_eq_true rfl) (Nat.le_refl _) (M_in (x := nI m) (by decide) (by decide) (fun _ _ _ _ => ?_) (fun z => ?_))
              · skip
                refine E_zN_eq (a := 1) (tgt := 36) dX12_tried_15 (by decide) (by decide) (fun cw15 => absurd cw15 (by omega)) (fun cw15 => ?_)
                refine E_iload_n dX12_tried_18 rfl ?_
                refine E_ic (nI 0) dX12_tried_19 (by decide) ?_
                refine E_bp (nI 7) dX12_tried_20 (by decide) ?_
                refine E_callS (As := [_, _, _]) (kc' := 0) (ks' := 0) (kc := 0) (ks := 0) dX12_tried_22 ok_X12_in w_X12_124 st_X12_in rfl rfl rfl (Nat.le_of_ble_eq_true rfl) (Nat.le_of_ble_eq_true rfl) (Nat.le_refl _) (M_in (x := nI 4) (by decide) (by decide) (fun _ _ _ _ => ?_) (fun z => ?_))
                · skip
                  refine E_zN_eq (a := 1) (tgt := 36) dX12_tried_25 (by decide) (by decide) (fun cw25 => absurd cw25 (by omega)) (fun cw25 => ?_)
                  refine E_iload_n dX12_tried_28 rfl ?_
                  refine E_aload_n dX12_tried_29 rfl ?_
                  refine E_getI dX12_tried_30 f_X12_128 rfl (Nat.lt_of_lt_of_le (by decide) hN) rfl ?_
                  refine E.top (hM.2.2.2.1.1) ?_
                  refine E_cN_le (a := m) (b := σ 9 0 0) (tgt := 38) dX12_tried_33 (by omega) (by omega) (by decide) (fun cw33 => ?_) (fun cw33 => absurd cw33 (by omega))
                  refine E_aload_n dX12_tried_38 rfl ?_
                  refine E_iload_n dX12_tried_39 rfl ?_
                  refine E_ic (nI 0) dX12_tried_40 (by decide) ?_
                  refine E_callV (As := [_, _]) (ci := 11) (kc' := 0) (ks' := 0) (kc := 0) (ks := 0) dX12_tried_41 ok_X12_readsRow w_X12_276 i_X12_readsRow s_X12_readsRow rfl (by decide) rfl (Nat.lt_of_lt_of_le (by decide) hN) rfl rfl rfl (Nat.le_of_ble_eq_true rfl) (Nat.le_of_ble_eq_true rfl) (Nat.le_refl _) (m_readsRow0 (d := 895) hN hR hc m1 (by omega) (fun j hj => hM.2.2.2.2.1 j (by omega)) ?_)
                  cases hr : rdS 0 96 m (ccS (tpS σ) m) with
                  | inl z =>
                    have hQ : ∀ (I' : IM) (J' : JM), MR (u0 σ) I' → (∀ a, a < 114 → I' a = I a) → I' 114 16 = I 114 16 → (∀ a, 128 ≤ a → a ≤ 132 → I' a = I a) → Q (some (.int (z))) n I' J' R := by rw [hr] at hQ; exact hQ
                    intro I4 f4 e4
                    refine E_zN_ne (a := 0) (tgt := 52) dX12_tried_44 (by decide) (by decide) (fun cw44 => absurd cw44 (by omega)) (fun cw44 => ?_)
                    refine E_aload_n dX12_tried_47 rfl ?_
                    refine E_getI dX12_tried_48 f_X12_146 rfl (Nat.lt_of_lt_of_le (by decide) hN) rfl ?_
                    refine E.top (e4) ?_
                    exact E_iret dX12_tried_51 rfl (hQ I4 J ⟨fun i hi => by rw [f4.1 118 (by decide) (by decide) (by decide) (by decide) (by decide), f4.1 119 (by decide) (by decide) (by decide) (by decide) (by decide), f4.1 120 (by decide) (by decide) (by decide) (by decide) (by decide)]; exact hM.1 i hi, by rw [f4.1 115 (by decide) (by decide) (by decide) (by decide) (by decide)]; exact hM.2.1, fun z => by rw [f4.1 117 (by decide) (by decide) (by decide) (by decide) (by decide)]; exact hM.2.2.1 z, ⟨f4.2.2, (f4.2.1 58 (by unfold fkR; omega)).trans hM.2.2.2.1.2⟩, fun j hj => absurd hj (Nat.not_lt_zero j), fun j => by rw [f4.1 140 (by decide) (by decide) (by decide) (by decide) (by decide)]; exact hM.2.2.2.2.2 j⟩ (fun a a1 => f4.1 a (by omega) (by omega) (by omega) (by omega) (by omega)) (f4.2.1 16 (by unfold fkR; omega)) (fun a a1 a2 => f4.1 a (by omega) (by omega) (by omega) (by omega) (by omega)))
                  | inr r =>
                    have hQ : ∀ (I' : IM) (J' : JM), MR (u0 σ) I' → (∀ a, a < 114 → I' a = I a) → I' 114 16 = I 114 16 → (∀ a, 128 ≤ a → a ≤ 132 → I' a = I a) → Q (some (.int (askR σ k 4 (rnQ q σ k r)))) n I' J' R := by rw [hr] at hQ; exact hQ
                    obtain ⟨⟨a1, a2, a3, a4, a5⟩, _⟩ := rd_ok hc hr
                    intro I4 f4 n4 i4
                    have e15 : I4 115 = I 115 := f4.1 115 (by decide) (by decide) (by decide) (by decide) (by decide)
                    have g5 : ∀ x, x ≠ 116 → (cp I4 115 116 75) x = I4 x := fun x hx => funext fun y => if_neg (fun z => hx z.1)
                    have h5 : ∀ y, y < 75 → (cp I4 115 116 75) 116 y = I 115 y := fun y hy => (if_pos ⟨rfl, hy⟩).trans (congrFun e15 y)
                    have hX4 : MCr k (σ 0 k 0) (σ 1 k) (σ 2 k) q (cp I4 115 116 75) := ⟨(congrFun ((g5 118 (by decide)).trans (f4.1 118 (by decide) (by decide) (by decide) (by decide) (by decide))) k).trans (hM.1 k hk).1, fun i hi => by rw [g5 119 (by decide), g5 120 (by decide), f4.1 119 (by decide) (by decide) (by decide) (by decide) (by decide), f4.1 120 (by decide) (by decide) (by decide) (by decide) (by decide)]; exact (hM.1 k hk).2 i hi, hl.keep ((congrFun (g5 114 (by decide)) 16).trans (f4.2.1 16 (by unfold fkR; omega))) (fun a a1 a2 => (g5 a (by omega)).trans (f4.1 a (by omega) (by omega) (by omega) (by omega) (by omega)))⟩
                    have c9 : σ 4 1 0 ≤ 9999 := hB.2.1.2.1
                    have w4 := hM.2.1.1 k hk
                    have e15b : (cp I4 115 116 75) 115 = I 115 := (g5 115 (by decide)).trans e15
                    have row4 : (cp I4 115 116 75) 115 k = nI (σ 3 k 0) ∧ (cp I4 115 116 75) 115 (12 + k) = nI (σ 3 k 1) ∧ (cp I4 115 116 75) 115 (24 + k) = nI (σ 3 k 2) ∧ (cp I4 115 116 75) 115 (60 + k) = nI (σ 3 k 3) ∧ (cp I4 115 116 75) 115 (36 + k) = nI (σ 3 k 4) ∧ (cp I4 115 116 75) 115 (48 + k) = nI (σ 3 k 5) := by rw [e15b]; exact ⟨w4.1, w4.2.1, w4.2.2.1, w4.2.2.2.2.2, w4.2.2.2.1, w4.2.2.2.2.1⟩
                    refine E_zN_ne (a := 1) (tgt := 52) dX12_tried_44 (by decide) (by decide) (fun cw44 => ?_) (fun cw44 => absurd cw44 (by omega))
                    refine E_aload_n dX12_tried_52 rfl ?_
                    refine E_getR dX12_tried_53 f_X12_7 rfl (Nat.lt_of_lt_of_le (by decide) hN) rfl (hR _ _ _ rfl) ?_
                    refine E_aload_n dX12_tried_56 rfl ?_
                    refine E_getR dX12_tried_57 f_X12_13 rfl (Nat.lt_of_lt_of_le (by decide) hN) rfl (hR _ _ _ rfl) ?_
                    refine E_callS (As := [_, _]) (kc' := 0) (ks' := 0) (kc := 0) (ks := 0) dX12_tried_60 ok_X12_copies w_X12_346 st_X12_copies rfl rfl rfl (Nat.le_of_ble_eq_true rfl) (Nat.le_of_ble_eq_true rfl) (Nat.le_refl _) (m_copies rfl rfl (Nat.lt_of_lt_of_le (by decide) hN) (Nat.lt_of_lt_of_le (by decide) hN) (by decide) ?_)
                    refine E_aload_n dX12_tried_63 rfl ?_
                    refine E_iload_n dX12_tried_64 rfl ?_
                    refine E_callV (As := [_]) (ci := 11) (kc' := 0) (ks' := 0) (kc := 0) (ks := 0) dX12_tried_65 ok_X12_draws w_X12_343 i_X12_draws s_X12_draws rfl (by decide) rfl (Nat.lt_of_lt_of_le (by decide) hN) rfl rfl rfl (Nat.le_of_ble_eq_true rfl) (Nat.le_of_ble_eq_true rfl) (Nat.le_refl _) (m_draws (d := 893) (k := k) (c0 := σ 4 1 0) (sc := σ 4 0 0) (l := σ 4 2 0) (f := r.2.2) (s := σ 3 k) hN hR hk hq (hB.1 k hk).1 a4 (fun i hi => a5 i hi) hX4 (bgD_ok hB hk) row4 (by rw [e15b]; exact hM.2.1.2.1) (by rw [e15b]; exact hM.2.1.2.2.1) c9 hB.2.1.2.2 (by rw [e15b]; exact hM.2.1.2.2.2) ((congrFun (g5 114 (by decide)) 34).trans n4) (fun j hj => (congrFun (g5 135 (by decide)) j).trans (i4 j hj)) (fun I6 f6 d6 l6 b6 => ?_))
                    revert hQ d6 l6 b6
                    show _ → _ → _ → _ → E g mX12_tried _ _ _ _ _ _ _ _ _ _ _
                    rw [show rnS q k (σ 0 k 0) (σ 1 k) (σ 2 k) r.2.2 r.2.1 0 (bgD (σ 3 k) (σ 4 0 0)) (σ 4 2 0) (if σ 3 k 5 = 0 then -2 else -3) = rnQ q σ k r from rfl]
                    generalize rnQ q σ k r = o
                    intro hQ d6 l6 b6
                    refine E_iload_n dX12_tried_68 rfl ?_
                    refine E_tin (tgt := 155) dX12_tried_69 (by decide) (by decide) rfl (by decide) ?_
                    refine E_aload_n dX12_tried_155 rfl ?_
                    refine E_getR dX12_tried_156 f_X12_7 rfl (Nat.lt_of_lt_of_le (by decide) hN) rfl (hR _ _ _ rfl) ?_
                    refine E_ic (nI 0) dX12_tried_159 (by decide) ?_
                    refine E_bp (nI 12) dX12_tried_160 (by decide) ?_
                    refine E_iload_n dX12_tried_162 rfl ?_
                    refine E_ic (nI 2) dX12_tried_163 (by decide) ?_
                    refine E_isub dX12_tried_164 ?_
                    refine E.top (pk_sub (a := 4) (b := 2) (by decide)) ?_
                    refine E.top ((show nI (4 - 2) = nI 2 from rfl)) ?_
                    refine E_imul dX12_tried_165 ?_
                    refine E.top (pk_mul 12 2) ?_
                    refine E.top ((show nI (12 * 2) = nI 24 from rfl)) ?_
                    refine E_iadd dX12_tried_166 ?_
                    refine E.top (nI_add 0 24) ?_
                    refine E.top ((show nI (0 + 24) = nI 24 from rfl)) ?_
                    refine E_iload_n dX12_tried_167 rfl ?_
                    refine E_iadd dX12_tried_168 ?_
                    refine E.top (nI_add 24 k) ?_
                    refine E_ialdN dX12_tried_169 rfl (Nat.lt_of_lt_of_le (by decide) hN) (by omega) ?_
                    refine E.top (d6.1.2.2.1) ?_
                    refine E_istore dX12_tried_170 (Nat.le_of_ble_eq_true rfl) ?_
                    refine E_aload_n dX12_tried_172 rfl ?_
                    refine E_getR dX12_tried_173 f_X12_13 rfl (Nat.lt_of_lt_of_le (by decide) hN) rfl (hR _ _ _ rfl) ?_
                    refine E_aload_n dX12_tried_176 rfl ?_
                    refine E_getR dX12_tried_177 f_X12_7 rfl (Nat.lt_of_lt_of_le (by decide) hN) rfl (hR _ _ _ rfl) ?_
                    refine E_callS (As := [_, _]) (kc' := 0) (ks' := 0) (kc := 0) (ks := 0) dX12_tried_180 ok_X12_copies w_X12_346 st_X12_copies rfl rfl rfl (Nat.le_of_ble_eq_true rfl) (Nat.le_of_ble_eq_true rfl) (Nat.le_refl _) (m_copies rfl rfl (Nat.lt_of_lt_of_le (by decide) hN) (Nat.lt_of_lt_of_le (by decide) hN) (by decide) ?_)
                    refine E_iload dX12_tried_183 rfl ?_
                    refine E_iret dX12_tried_185 rfl ?_
                    have far : ∀ x, x ≠ 114 → x ≠ 115 → x ≠ 116 → x ≠ 133 → x ≠ 134 → x ≠ 135 → x ≠ 136 → x ≠ 137 → x ≠ 138 → cp I6 116 115 75 x = I x := fun x c1 c2 c3 c4 c5 c6 c7 c8 c9 => (show cp I6 116 115 75 x = I6 x from funext fun y => if_neg (fun z => c2 z.1)).trans ((f6.1 x c1 c2 c4 c5).trans ((g5 x c3).trans (f4.1 x c1 c6 c7 c8 c9)))
                    have f14 : ∀ j, j ≠ 40 → j ≠ 41 → j ≠ 42 → cp I6 116 115 75 114 j = I4 114 j := fun j c1 c2 c3 => (show cp I6 116 115 75 114 j = I6 114 j from if_neg (fun z => absurd z.1 (by decide))).trans ((f6.2.1 j c1 c2 c3).trans (congrFun (g5 114 (by decide)) j))
                    have f15 : ∀ y, y < 75 → cp I6 116 115 75 115 y = I 115 y := fun y hy => (if_pos ⟨rfl, hy⟩).trans ((congrFun (f6.1 116 (by decide) (by decide) (by decide) (by decide)) y).trans (h5 y hy))
                    obtain ⟨m1', ⟨k0, k1, k2, k3⟩, m3, m4, m5, m6⟩ := hM
                    refine hQ _ J ⟨fun i hi => ?_, ⟨fun i hi => ?_, ?_, ?_, ?_⟩, fun z => ?_, ⟨?_, ?_⟩, fun j hj => absurd hj (Nat.not_lt_zero j), fun j => ?_⟩ (fun a a1 => far a (by omega) (by omega) (by omega) (by omega) (by omega) (by omega) (by omega) (by omega) (by omega)) ((f14 16 (by decide) (by decide) (by decide)).trans (f4.2.1 16 (by unfold fkR; omega))) (fun a a1 a2 => far a (by omega) (by omega) (by omega) (by omega) (by omega) (by omega) (by omega) (by omega) (by omega))
                    · rw [far 118 (by decide) (by decide) (by decide) (by decide) (by decide) (by decide) (by decide) (by decide) (by decide), far 119 (by decide) (by decide) (by decide) (by decide) (by decide) (by decide) (by decide) (by decide) (by decide), far 120 (by decide) (by decide) (by decide) (by decide) (by decide) (by decide) (by decide) (by decide) (by decide)]
                      exact m1' i hi
                    · rw [f15 i (by omega), f15 (12 + i) (by omega), f15 (24 + i) (by omega), f15 (36 + i) (by omega), f15 (48 + i) (by omega), f15 (60 + i) (by omega)]
                      exact k0 i hi
                    · rw [f15 72 (by decide)]
                      exact k1
                    · rw [f15 73 (by decide)]
                      exact k2
                    · rw [f15 74 (by decide)]
                      exact k3
                    · rw [far 117 (by decide) (by decide) (by decide) (by decide) (by decide) (by decide) (by decide) (by decide) (by decide)]
                      exact m3 z
                    · exact (f14 7 (by decide) (by decide) (by decide)).trans f4.2.2
                    · exact (f14 58 (by decide) (by decide) (by decide)).trans ((f4.2.1 58 (by unfold fkR; omega)).trans m4.2)
                    · rw [far 140 (by decide) (by decide) (by decide) (by decide) (by decide) (by decide) (by decide) (by decide) (by decide)]
                      exact m6 j
                · skip
                  exact absurd rfl (z _ (by omega) (by omega))
              · skip
                exact absurd rfl (z _ (by omega) (by omega))
            · skip
              exact absurd (tk_of hk h0) z
          · skip
            rw [nI_clamp (n := 5) (by decide)] at hQ
            refine E_aload_n dX12_tried_0 rfl ?_
            refine E_iload_n dX12_tried_1 rfl ?_
            refine E_callV (As := [_]) (ci := 11) (kc' := 0) (ks' := 0) (kc := 0) (ks := 0) dX12_tried_2 ok_X12_isTold w_X12_340 i_X12_isTold s_X12_isTold rfl (by decide) rfl (Nat.lt_of_lt_of_le (by decide) hN) rfl rfl rfl (Nat.le_of_ble_eq_true rfl) (Nat.le_of_ble_eq_true rfl) (Nat.le_refl _) (M_isTold (d := 898) hB hM hN hR (fun j hj e hj0 => ?_) (fun z => ?_))
            · skip
              refine E_zN_eq (a := 1) (tgt := 36) dX12_tried_5 (by decide) (by decide) (fun cw5 => absurd cw5 (by omega)) (fun cw5 => ?_)
              refine E_iload_n dX12_tried_8 rfl ?_
              refine E_ic (nI 1) dX12_tried_9 (by decide) ?_
              refine E_bp (nI 60) dX12_tried_10 (by decide) ?_
              refine E_callS (As := [_, _, _]) (kc' := 0) (ks' := 0) (kc := 0) (ks := 0) dX12_tried_12 ok_X12_in w_X12_124 st_X12_in rfl rfl rfl (Nat.le_of_ble_eq_true rfl) (Nat.le_of_ble_eq_true rfl) (Nat.le_refl _) (M_in (x := nI m) (by decide) (by decide) (fun _ _ _ _ => ?_) (fun z => ?_))
              · skip
                refine E_zN_eq (a := 1) (tgt := 36) dX12_tried_15 (by decide) (by decide) (fun cw15 => absurd cw15 (by omega)) (fun cw15 => ?_)
                refine E_iload_n dX12_tried_18 rfl ?_
                refine E_ic (nI 0) dX12_tried_19 (by decide) ?_
                refine E_bp (nI 7) dX12_tried_20 (by decide) ?_
                refine E_callS (As := [_, _, _]) (kc' := 0) (ks' := 0) (kc := 0) (ks := 0) dX12_tried_22 ok_X12_in w_X12_124 st_X12_in rfl rfl rfl (Nat.le_of_ble_eq_true rfl) (Nat.le_of_ble_eq_true rfl) (Nat.le_refl _) (M_in (x := nI 5) (by decide) (by decide) (fun _ _ _ _ => ?_) (fun z => ?_))
                · skip
                  refine E_zN_eq (a := 1) (tgt := 36) dX12_tried_25 (by decide) (by decide) (fun cw25 => absurd cw25 (by omega)) (fun cw25 => ?_)
                  refine E_iload_n dX12_tried_28 rfl ?_
                  refine E_aload_n dX12_tried_29 rfl ?_
                  refine E_getI dX12_tried_30 f_X12_128 rfl (Nat.lt_of_lt_of_le (by decide) hN) rfl ?_
                  refine E.top (hM.2.2.2.1.1) ?_
                  refine E_cN_le (a := m) (b := σ 9 0 0) (tgt := 38) dX12_tried_33 (by omega) (by omega) (by decide) (fun cw33 => ?_) (fun cw33 => absurd cw33 (by omega))
                  refine E_aload_n dX12_tried_38 rfl ?_
                  refine E_iload_n dX12_tried_39 rfl ?_
                  refine E_ic (nI 0) dX12_tried_40 (by decide) ?_
                  refine E_callV (As := [_, _]) (ci := 11) (kc' := 0) (ks' := 0) (kc := 0) (ks := 0) dX12_tried_41 ok_X12_readsRow w_X12_276 i_X12_readsRow s_X12_readsRow rfl (by decide) rfl (Nat.lt_of_lt_of_le (by decide) hN) rfl rfl rfl (Nat.le_of_ble_eq_true rfl) (Nat.le_of_ble_eq_true rfl) (Nat.le_refl _) (m_readsRow0 (d := 895) hN hR hc m1 (by omega) (fun j hj => hM.2.2.2.2.1 j (by omega)) ?_)
                  cases hr : rdS 0 96 m (ccS (tpS σ) m) with
                  | inl z =>
                    have hQ : ∀ (I' : IM) (J' : JM), MR (u0 σ) I' → (∀ a, a < 114 → I' a = I a) → I' 114 16 = I 114 16 → (∀ a, 128 ≤ a → a ≤ 132 → I' a = I a) → Q (some (.int (z))) n I' J' R := by rw [hr] at hQ; exact hQ
                    intro I4 f4 e4
                    refine E_zN_ne (a := 0) (tgt := 52) dX12_tried_44 (by decide) (by decide) (fun cw44 => absurd cw44 (by omega)) (fun cw44 => ?_)
                    refine E_aload_n dX12_tried_47 rfl ?_
                    refine E_getI dX12_tried_48 f_X12_146 rfl (Nat.lt_of_lt_of_le (by decide) hN) rfl ?_
                    refine E.top (e4) ?_
                    exact E_iret dX12_tried_51 rfl (hQ I4 J ⟨fun i hi => by rw [f4.1 118 (by decide) (by decide) (by decide) (by decide) (by decide), f4.1 119 (by decide) (by decide) (by decide) (by decide) (by decide), f4.1 120 (by decide) (by decide) (by decide) (by decide) (by decide)]; exact hM.1 i hi, by rw [f4.1 115 (by decide) (by decide) (by decide) (by decide) (by decide)]; exact hM.2.1, fun z => by rw [f4.1 117 (by decide) (by decide) (by decide) (by decide) (by decide)]; exact hM.2.2.1 z, ⟨f4.2.2, (f4.2.1 58 (by unfold fkR; omega)).trans hM.2.2.2.1.2⟩, fun j hj => absurd hj (Nat.not_lt_zero j), fun j => by rw [f4.1 140 (by decide) (by decide) (by decide) (by decide) (by decide)]; exact hM.2.2.2.2.2 j⟩ (fun a a1 => f4.1 a (by omega) (by omega) (by omega) (by omega) (by omega)) (f4.2.1 16 (by unfold fkR; omega)) (fun a a1 a2 => f4.1 a (by omega) (by omega) (by omega) (by omega) (by omega)))
                  | inr r =>
                    have hQ : ∀ (I' : IM) (J' : JM), MR (u0 σ) I' → (∀ a, a < 114 → I' a = I a) → I' 114 16 = I 114 16 → (∀ a, 128 ≤ a → a ≤ 132 → I' a = I a) → Q (some (.int (askR σ k 5 (rnQ q σ k r)))) n I' J' R := by rw [hr] at hQ; exact hQ
                    obtain ⟨⟨a1, a2, a3, a4, a5⟩, _⟩ := rd_ok hc hr
                    intro I4 f4 n4 i4
                    have e15 : I4 115 = I 115 := f4.1 115 (by decide) (by decide) (by decide) (by decide) (by decide)
                    have g5 : ∀ x, x ≠ 116 → (cp I4 115 116 75) x = I4 x := fun x hx => funext fun y => if_neg (fun z => hx z.1)
                    have h5 : ∀ y, y < 75 → (cp I4 115 116 75) 116 y = I 115 y := fun y hy => (if_pos ⟨rfl, hy⟩).trans (congrFun e15 y)
                    have hX4 : MCr k (σ 0 k 0) (σ 1 k) (σ 2 k) q (cp I4 115 116 75) := ⟨(congrFun ((g5 118 (by decide)).trans (f4.1 118 (by decide) (by decide) (by decide) (by decide) (by decide))) k).trans (hM.1 k hk).1, fun i hi => by rw [g5 119 (by decide), g5 120 (by decide), f4.1 119 (by decide) (by decide) (by decide) (by decide) (by decide), f4.1 120 (by decide) (by decide) (by decide) (by decide) (by decide)]; exact (hM.1 k hk).2 i hi, hl.keep ((congrFun (g5 114 (by decide)) 16).trans (f4.2.1 16 (by unfold fkR; omega))) (fun a a1 a2 => (g5 a (by omega)).trans (f4.1 a (by omega) (by omega) (by omega) (by omega) (by omega)))⟩
                    have c9 : σ 4 1 0 ≤ 9999 := hB.2.1.2.1
                    have w4 := hM.2.1.1 k hk
                    have e15b : (cp I4 115 116 75) 115 = I 115 := (g5 115 (by decide)).trans e15
                    have row4 : (cp I4 115 116 75) 115 k = nI (σ 3 k 0) ∧ (cp I4 115 116 75) 115 (12 + k) = nI (σ 3 k 1) ∧ (cp I4 115 116 75) 115 (24 + k) = nI (σ 3 k 2) ∧ (cp I4 115 116 75) 115 (60 + k) = nI (σ 3 k 3) ∧ (cp I4 115 116 75) 115 (36 + k) = nI (σ 3 k 4) ∧ (cp I4 115 116 75) 115 (48 + k) = nI (σ 3 k 5) := by rw [e15b]; exact ⟨w4.1, w4.2.1, w4.2.2.1, w4.2.2.2.2.2, w4.2.2.2.1, w4.2.2.2.2.1⟩
                    refine E_zN_ne (a := 1) (tgt := 52) dX12_tried_44 (by decide) (by decide) (fun cw44 => ?_) (fun cw44 => absurd cw44 (by omega))
                    refine E_aload_n dX12_tried_52 rfl ?_
                    refine E_getR dX12_tried_53 f_X12_7 rfl (Nat.lt_of_lt_of_le (by decide) hN) rfl (hR _ _ _ rfl) ?_
                    refine E_aload_n dX12_tried_56 rfl ?_
                    refine E_getR dX12_tried_57 f_X12_13 rfl (Nat.lt_of_lt_of_le (by decide) hN) rfl (hR _ _ _ rfl) ?_
                    refine E_callS (As := [_, _]) (kc' := 0) (ks' := 0) (kc := 0) (ks := 0) dX12_tried_60 ok_X12_copies w_X12_346 st_X12_copies rfl rfl rfl (Nat.le_of_ble_eq_true rfl) (Nat.le_of_ble_eq_true rfl) (Nat.le_refl _) (m_copies rfl rfl (Nat.lt_of_lt_of_le (by decide) hN) (Nat.lt_of_lt_of_le (by decide) hN) (by decide) ?_)
                    refine E_aload_n dX12_tried_63 rfl ?_
                    refine E_iload_n dX12_tried_64 rfl ?_
                    refine E_callV (As := [_]) (ci := 11) (kc' := 0) (ks' := 0) (kc := 0) (ks := 0) dX12_tried_65 ok_X12_draws w_X12_343 i_X12_draws s_X12_draws rfl (by decide) rfl (Nat.lt_of_lt_of_le (by decide) hN) rfl rfl rfl (Nat.le_of_ble_eq_true rfl) (Nat.le_of_ble_eq_true rfl) (Nat.le_refl _) (m_draws (d := 893) (k := k) (c0 := σ 4 1 0) (sc := σ 4 0 0) (l := σ 4 2 0) (f := r.2.2) (s := σ 3 k) hN hR hk hq (hB.1 k hk).1 a4 (fun i hi => a5 i hi) hX4 (bgD_ok hB hk) row4 (by rw [e15b]; exact hM.2.1.2.1) (by rw [e15b]; exact hM.2.1.2.2.1) c9 hB.2.1.2.2 (by rw [e15b]; exact hM.2.1.2.2.2) ((congrFun (g5 114 (by decide)) 34).trans n4) (fun j hj => (congrFun (g5 135 (by decide)) j).trans (i4 j hj)) (fun I6 f6 d6 l6 b6 => ?_))
                    revert hQ d6 l6 b6
                    show _ → _ → _ → _ → E g mX12_tried _ _ _ _ _ _ _ _ _ _ _
                    rw [show rnS q k (σ 0 k 0) (σ 1 k) (σ 2 k) r.2.2 r.2.1 0 (bgD (σ 3 k) (σ 4 0 0)) (σ 4 2 0) (if σ 3 k 5 = 0 then -2 else -3) = rnQ q σ k r from rfl]
                    generalize rnQ q σ k r = o
                    intro hQ d6 l6 b6
                    refine E_iload_n dX12_tried_68 rfl ?_
                    refine E_tin (tgt := 155) dX12_tried_69 (by decide) (by decide) rfl (by decide) ?_
                    refine E_aload_n dX12_tried_155 rfl ?_
                    refine E_getR dX12_tried_156 f_X12_7 rfl (Nat.lt_of_lt_of_le (by decide) hN) rfl (hR _ _ _ rfl) ?_
                    refine E_ic (nI 0) dX12_tried_159 (by decide) ?_
                    refine E_bp (nI 12) dX12_tried_160 (by decide) ?_
                    refine E_iload_n dX12_tried_162 rfl ?_
                    refine E_ic (nI 2) dX12_tried_163 (by decide) ?_
                    refine E_isub dX12_tried_164 ?_
                    refine E.top (pk_sub (a := 5) (b := 2) (by decide)) ?_
                    refine E.top ((show nI (5 - 2) = nI 3 from rfl)) ?_
                    refine E_imul dX12_tried_165 ?_
                    refine E.top (pk_mul 12 3) ?_
                    refine E.top ((show nI (12 * 3) = nI 36 from rfl)) ?_
                    refine E_iadd dX12_tried_166 ?_
                    refine E.top (nI_add 0 36) ?_
                    refine E.top ((show nI (0 + 36) = nI 36 from rfl)) ?_
                    refine E_iload_n dX12_tried_167 rfl ?_
                    refine E_iadd dX12_tried_168 ?_
                    refine E.top (nI_add 36 k) ?_
                    refine E_ialdN dX12_tried_169 rfl (Nat.lt_of_lt_of_le (by decide) hN) (by omega) ?_
                    refine E.top (d6.1.2.2.2.2.1) ?_
                    refine E_istore dX12_tried_170 (Nat.le_of_ble_eq_true rfl) ?_
                    refine E_aload_n dX12_tried_172 rfl ?_
                    refine E_getR dX12_tried_173 f_X12_13 rfl (Nat.lt_of_lt_of_le (by decide) hN) rfl (hR _ _ _ rfl) ?_
                    refine E_aload_n dX12_tried_176 rfl ?_
                    refine E_getR dX12_tried_177 f_X12_7 rfl (Nat.lt_of_lt_of_le (by decide) hN) rfl (hR _ _ _ rfl) ?_
                    refine E_callS (As := [_, _]) (kc' := 0) (ks' := 0) (kc := 0) (ks := 0) dX12_tried_180 ok_X12_copies w_X12_346 st_X12_copies rfl rfl rfl (Nat.le_of_ble_eq_true rfl) (Nat.le_of_ble_eq_true rfl) (Nat.le_refl _) (m_copies rfl rfl (Nat.lt_of_lt_of_le (by decide) hN) (Nat.lt_of_lt_of_le (by decide) hN) (by decide) ?_)
                    refine E_iload dX12_tried_183 rfl ?_
                    refine E_iret dX12_tried_185 rfl ?_
                    have far : ∀ x, x ≠ 114 → x ≠ 115 → x ≠ 116 → x ≠ 133 → x ≠ 134 → x ≠ 135 → x ≠ 136 → x ≠ 137 → x ≠ 138 → cp I6 116 115 75 x = I x := fun x c1 c2 c3 c4 c5 c6 c7 c8 c9 => (show cp I6 116 115 75 x = I6 x from funext fun y => if_neg (fun z => c2 z.1)).trans ((f6.1 x c1 c2 c4 c5).trans ((g5 x c3).trans (f4.1 x c1 c6 c7 c8 c9)))
                    have f14 : ∀ j, j ≠ 40 → j ≠ 41 → j ≠ 42 → cp I6 116 115 75 114 j = I4 114 j := fun j c1 c2 c3 => (show cp I6 116 115 75 114 j = I6 114 j from if_neg (fun z => absurd z.1 (by decide))).trans ((f6.2.1 j c1 c2 c3).trans (congrFun (g5 114 (by decide)) j))
                    have f15 : ∀ y, y < 75 → cp I6 116 115 75 115 y = I 115 y := fun y hy => (if_pos ⟨rfl, hy⟩).trans ((congrFun (f6.1 116 (by decide) (by decide) (by decide) (by decide)) y).trans (h5 y hy))
                    obtain ⟨m1', ⟨k0, k1, k2, k3⟩, m3, m4, m5, m6⟩ := hM
                    refine hQ _ J ⟨fun i hi => ?_, ⟨fun i hi => ?_, ?_, ?_, ?_⟩, fun z => ?_, ⟨?_, ?_⟩, fun j hj => absurd hj (Nat.not_lt_zero j), fun j => ?_⟩ (fun a a1 => far a (by omega) (by omega) (by omega) (by omega) (by omega) (by omega) (by omega) (by omega) (by omega)) ((f14 16 (by decide) (by decide) (by decide)).trans (f4.2.1 16 (by unfold fkR; omega))) (fun a a1 a2 => far a (by omega) (by omega) (by omega) (by omega) (by omega) (by omega) (by omega) (by omega) (by omega))
                    · rw [far 118 (by decide) (by decide) (by decide) (by decide) (by decide) (by decide) (by decide) (by decide) (by decide), far 119 (by decide) (by decide) (by decide) (by decide) (by decide) (by decide) (by decide) (by decide) (by decide), far 120 (by decide) (by decide) (by decide) (by decide) (by decide) (by decide) (by decide) (by decide) (by decide)]
                      exact m1' i hi
                    · rw [f15 i (by omega), f15 (12 + i) (by omega), f15 (24 + i) (by omega), f15 (36 + i) (by omega), f15 (48 + i) (by omega), f15 (60 + i) (by omega)]
                      exact k0 i hi
                    · rw [f15 72 (by decide)]
                      exact k1
                    · rw [f15 73 (by decide)]
                      exact k2
                    · rw [f15 74 (by decide)]
                      exact k3
                    · rw [far 117 (by decide) (by decide) (by decide) (by decide) (by decide) (by decide) (by decide) (by decide) (by decide)]
                      exact m3 z
                    · exact (f14 7 (by decide) (by decide) (by decide)).trans f4.2.2
                    · exact (f14 58 (by decide) (by decide) (by decide)).trans ((f4.2.1 58 (by unfold fkR; omega)).trans m4.2)
                    · rw [far 140 (by decide) (by decide) (by decide) (by decide) (by decide) (by decide) (by decide) (by decide) (by decide)]
                      exact m6 j
                · skip
                  exact absurd rfl (z _ (by omega) (by omega))
              · skip
                exact absurd rfl (z _ (by omega) (by omega))
            · skip
              exact absurd (tk_of hk h0) z
          · skip
            rw [nI_clamp (n := 6) (by decide)] at hQ
            refine E_aload_n dX12_tried_0 rfl ?_
            refine E_iload_n dX12_tried_1 rfl ?_
            refine E_callV (As := [_]) (ci := 11) (kc' := 0) (ks' := 0) (kc := 0) (ks := 0) dX12_tried_2 ok_X12_isTold w_X12_340 i_X12_isTold s_X12_isTold rfl (by decide) rfl (Nat.lt_of_lt_of_le (by decide) hN) rfl rfl rfl (Nat.le_of_ble_eq_true rfl) (Nat.le_of_ble_eq_true rfl) (Nat.le_refl _) (M_isTold (d := 898) hB hM hN hR (fun j hj e hj0 => ?_) (fun z => ?_))
            · skip
              refine E_zN_eq (a := 1) (tgt := 36) dX12_tried_5 (by decide) (by decide) (fun cw5 => absurd cw5 (by omega)) (fun cw5 => ?_)
              refine E_iload_n dX12_tried_8 rfl ?_
              refine E_ic (nI 1) dX12_tried_9 (by decide) ?_
              refine E_bp (nI 60) dX12_tried_10 (by decide) ?_
              refine E_callS (As := [_, _, _]) (kc' := 0) (ks' := 0) (kc := 0) (ks := 0) dX12_tried_12 ok_X12_in w_X12_124 st_X12_in rfl rfl rfl (Nat.le_of_ble_eq_true rfl) (Nat.le_of_ble_eq_true rfl) (Nat.le_refl _) (M_in (x := nI m) (by decide) (by decide) (fun _ _ _ _ => ?_) (fun z => ?_))
              · skip
                refine E_zN_eq (a := 1) (tgt := 36) dX12_tried_15 (by decide) (by decide) (fun cw15 => absurd cw15 (by omega)) (fun cw15 => ?_)
                refine E_iload_n dX12_tried_18 rfl ?_
                refine E_ic (nI 0) dX12_tried_19 (by decide) ?_
                refine E_bp (nI 7) dX12_tried_20 (by decide) ?_
                refine E_callS (As := [_, _, _]) (kc' := 0) (ks' := 0) (kc := 0) (ks := 0) dX12_tried_22 ok_X12_in w_X12_124 st_X12_in rfl rfl rfl (Nat.le_of_ble_eq_true rfl) (Nat.le_of_ble_eq_true rfl) (Nat.le_refl _) (M_in (x := nI 6) (by decide) (by decide) (fun _ _ _ _ => ?_) (fun z => ?_))
                · skip
                  refine E_zN_eq (a := 1) (tgt := 36) dX12_tried_25 (by decide) (by decide) (fun cw25 => absurd cw25 (by omega)) (fun cw25 => ?_)
                  refine E_iload_n dX12_tried_28 rfl ?_
                  refine E_aload_n dX12_tried_29 rfl ?_
                  refine E_getI dX12_tried_30 f_X12_128 rfl (Nat.lt_of_lt_of_le (by decide) hN) rfl ?_
                  refine E.top (hM.2.2.2.1.1) ?_
                  refine E_cN_le (a := m) (b := σ 9 0 0) (tgt := 38) dX12_tried_33 (by omega) (by omega) (by decide) (fun cw33 => ?_) (fun cw33 => absurd cw33 (by omega))
                  refine E_aload_n dX12_tried_38 rfl ?_
                  refine E_iload_n dX12_tried_39 rfl ?_
                  refine E_ic (nI 0) dX12_tried_40 (by decide) ?_
                  refine E_callV (As := [_, _]) (ci := 11) (kc' := 0) (ks' := 0) (kc := 0) (ks := 0) dX12_tried_41 ok_X12_readsRow w_X12_276 i_X12_readsRow s_X12_readsRow rfl (by decide) rfl (Nat.lt_of_lt_of_le (by decide) hN) rfl rfl rfl (Nat.le_of_ble_eq_true rfl) (Nat.le_of_ble_eq_true rfl) (Nat.le_refl _) (m_readsRow0 (d := 895) hN hR hc m1 (by omega) (fun j hj => hM.2.2.2.2.1 j (by omega)) ?_)
                  cases hr : rdS 0 96 m (ccS (tpS σ) m) with
                  | inl z =>
                    have hQ : ∀ (I' : IM) (J' : JM), MR (u0 σ) I' → (∀ a, a < 114 → I' a = I a) → I' 114 16 = I 114 16 → (∀ a, 128 ≤ a → a ≤ 132 → I' a = I a) → Q (some (.int (z))) n I' J' R := by rw [hr] at hQ; exact hQ
                    intro I4 f4 e4
                    refine E_zN_ne (a := 0) (tgt := 52) dX12_tried_44 (by decide) (by decide) (fun cw44 => absurd cw44 (by omega)) (fun cw44 => ?_)
                    refine E_aload_n dX12_tried_47 rfl ?_
                    refine E_getI dX12_tried_48 f_X12_146 rfl (Nat.lt_of_lt_of_le (by decide) hN) rfl ?_
                    refine E.top (e4) ?_
                    exact E_iret dX12_tried_51 rfl (hQ I4 J ⟨fun i hi => by rw [f4.1 118 (by decide) (by decide) (by decide) (by decide) (by decide), f4.1 119 (by decide) (by decide) (by decide) (by decide) (by decide), f4.1 120 (by decide) (by decide) (by decide) (by decide) (by decide)]; exact hM.1 i hi, by rw [f4.1 115 (by decide) (by decide) (by decide) (by decide) (by decide)]; exact hM.2.1, fun z => by rw [f4.1 117 (by decide) (by decide) (by decide) (by decide) (by decide)]; exact hM.2.2.1 z, ⟨f4.2.2, (f4.2.1 58 (by unfold fkR; omega)).trans hM.2.2.2.1.2⟩, fun j hj => absurd hj (Nat.not_lt_zero j), fun j => by rw [f4.1 140 (by decide) (by decide) (by decide) (by decide) (by decide)]; exact hM.2.2.2.2.2 j⟩ (fun a a1 => f4.1 a (by omega) (by omega) (by omega) (by omega) (by omega)) (f4.2.1 16 (by unfold fkR; omega)) (fun a a1 a2 => f4.1 a (by omega) (by omega) (by omega) (by omega) (by omega)))
                  | inr r =>
                    have hQ : ∀ (I' : IM) (J' : JM), MR (u0 σ) I' → (∀ a, a < 114 → I' a = I a) → I' 114 16 = I 114 16 → (∀ a, 128 ≤ a → a ≤ 132 → I' a = I a) → Q (some (.int (askR σ k 6 (rnQ q σ k r)))) n I' J' R := by rw [hr] at hQ; exact hQ
                    obtain ⟨⟨a1, a2, a3, a4, a5⟩, _⟩ := rd_ok hc hr
                    intro I4 f4 n4 i4
                    have e15 : I4 115 = I 115 := f4.1 115 (by decide) (by decide) (by decide) (by decide) (by decide)
                    have g5 : ∀ x, x ≠ 116 → (cp I4 115 116 75) x = I4 x := fun x hx => funext fun y => if_neg (fun z => hx z.1)
                    have h5 : ∀ y, y < 75 → (cp I4 115 116 75) 116 y = I 115 y := fun y hy => (if_pos ⟨rfl, hy⟩).trans (congrFun e15 y)
                    have hX4 : MCr k (σ 0 k 0) (σ 1 k) (σ 2 k) q (cp I4 115 116 75) := ⟨(congrFun ((g5 118 (by decide)).trans (f4.1 118 (by decide) (by decide) (by decide) (by decide) (by decide))) k).trans (hM.1 k hk).1, fun i hi => by rw [g5 119 (by decide), g5 120 (by decide), f4.1 119 (by decide) (by decide) (by decide) (by decide) (by decide), f4.1 120 (by decide) (by decide) (by decide) (by decide) (by decide)]; exact (hM.1 k hk).2 i hi, hl.keep ((congrFun (g5 114 (by decide)) 16).trans (f4.2.1 16 (by unfold fkR; omega))) (fun a a1 a2 => (g5 a (by omega)).trans (f4.1 a (by omega) (by omega) (by omega) (by omega) (by omega)))⟩
                    have c9 : σ 4 1 0 ≤ 9999 := hB.2.1.2.1
                    have w4 := hM.2.1.1 k hk
                    have e15b : (cp I4 115 116 75) 115 = I 115 := (g5 115 (by decide)).trans e15
                    have row4 : (cp I4 115 116 75) 115 k = nI (σ 3 k 0) ∧ (cp I4 115 116 75) 115 (12 + k) = nI (σ 3 k 1) ∧ (cp I4 115 116 75) 115 (24 + k) = nI (σ 3 k 2) ∧ (cp I4 115 116 75) 115 (60 + k) = nI (σ 3 k 3) ∧ (cp I4 115 116 75) 115 (36 + k) = nI (σ 3 k 4) ∧ (cp I4 115 116 75) 115 (48 + k) = nI (σ 3 k 5) := by rw [e15b]; exact ⟨w4.1, w4.2.1, w4.2.2.1, w4.2.2.2.2.2, w4.2.2.2.1, w4.2.2.2.2.1⟩
                    refine E_zN_ne (a := 1) (tgt := 52) dX12_tried_44 (by decide) (by decide) (fun cw44 => ?_) (fun cw44 => absurd cw44 (by omega))
                    refine E_aload_n dX12_tried_52 rfl ?_
                    refine E_getR dX12_tried_53 f_X12_7 rfl (Nat.lt_of_lt_of_le (by decide) hN) rfl (hR _ _ _ rfl) ?_
                    refine E_aload_n dX12_tried_56 rfl ?_
                    refine E_getR dX12_tried_57 f_X12_13 rfl (Nat.lt_of_lt_of_le (by decide) hN) rfl (hR _ _ _ rfl) ?_
                    refine E_callS (As := [_, _]) (kc' := 0) (ks' := 0) (kc := 0) (ks := 0) dX12_tried_60 ok_X12_copies w_X12_346 st_X12_copies rfl rfl rfl (Nat.le_of_ble_eq_true rfl) (Nat.le_of_ble_eq_true rfl) (Nat.le_refl _) (m_copies rfl rfl (Nat.lt_of_lt_of_le (by decide) hN) (Nat.lt_of_lt_of_le (by decide) hN) (by decide) ?_)
                    refine E_aload_n dX12_tried_63 rfl ?_
                    refine E_iload_n dX12_tried_64 rfl ?_
                    refine E_callV (As := [_]) (ci := 11) (kc' := 0) (ks' := 0) (kc := 0) (ks := 0) dX12_tried_65 ok_X12_draws w_X12_343 i_X12_draws s_X12_draws rfl (by decide) rfl (Nat.lt_of_lt_of_le (by decide) hN) rfl rfl rfl (Nat.le_of_ble_eq_true rfl) (Nat.le_of_ble_eq_true rfl) (Nat.le_refl _) (m_draws (d := 893) (k := k) (c0 := σ 4 1 0) (sc := σ 4 0 0) (l := σ 4 2 0) (f := r.2.2) (s := σ 3 k) hN hR hk hq (hB.1 k hk).1 a4 (fun i hi => a5 i hi) hX4 (bgD_ok hB hk) row4 (by rw [e15b]; exact hM.2.1.2.1) (by rw [e15b]; exact hM.2.1.2.2.1) c9 hB.2.1.2.2 (by rw [e15b]; exact hM.2.1.2.2.2) ((congrFun (g5 114 (by decide)) 34).trans n4) (fun j hj => (congrFun (g5 135 (by decide)) j).trans (i4 j hj)) (fun I6 f6 d6 l6 b6 => ?_))
                    revert hQ d6 l6 b6
                    show _ → _ → _ → _ → E g mX12_tried _ _ _ _ _ _ _ _ _ _ _
                    rw [show rnS q k (σ 0 k 0) (σ 1 k) (σ 2 k) r.2.2 r.2.1 0 (bgD (σ 3 k) (σ 4 0 0)) (σ 4 2 0) (if σ 3 k 5 = 0 then -2 else -3) = rnQ q σ k r from rfl]
                    generalize rnQ q σ k r = o
                    intro hQ d6 l6 b6
                    refine E_iload_n dX12_tried_68 rfl ?_
                    refine E_tin (tgt := 134) dX12_tried_69 (by decide) (by decide) rfl (by decide) ?_
                    refine E_aload_n dX12_tried_134 rfl ?_
                    refine E_getI dX12_tried_135 f_X12_289 rfl (Nat.lt_of_lt_of_le (by decide) hN) rfl ?_
                    refine E.top ((d6.2 rfl).2.2.2) ?_
                    refine E_istore dX12_tried_138 (Nat.le_of_ble_eq_true rfl) ?_
                    refine E_goto (tgt := 172) dX12_tried_140 (by decide) ?_
                    refine E_aload_n dX12_tried_172 rfl ?_
                    refine E_getR dX12_tried_173 f_X12_13 rfl (Nat.lt_of_lt_of_le (by decide) hN) rfl (hR _ _ _ rfl) ?_
                    refine E_aload_n dX12_tried_176 rfl ?_
                    refine E_getR dX12_tried_177 f_X12_7 rfl (Nat.lt_of_lt_of_le (by decide) hN) rfl (hR _ _ _ rfl) ?_
                    refine E_callS (As := [_, _]) (kc' := 0) (ks' := 0) (kc := 0) (ks := 0) dX12_tried_180 ok_X12_copies w_X12_346 st_X12_copies rfl rfl rfl (Nat.le_of_ble_eq_true rfl) (Nat.le_of_ble_eq_true rfl) (Nat.le_refl _) (m_copies rfl rfl (Nat.lt_of_lt_of_le (by decide) hN) (Nat.lt_of_lt_of_le (by decide) hN) (by decide) ?_)
                    refine E_iload dX12_tried_183 rfl ?_
                    refine E_iret dX12_tried_185 rfl ?_
                    have far : ∀ x, x ≠ 114 → x ≠ 115 → x ≠ 116 → x ≠ 133 → x ≠ 134 → x ≠ 135 → x ≠ 136 → x ≠ 137 → x ≠ 138 → cp I6 116 115 75 x = I x := fun x c1 c2 c3 c4 c5 c6 c7 c8 c9 => (show cp I6 116 115 75 x = I6 x from funext fun y => if_neg (fun z => c2 z.1)).trans ((f6.1 x c1 c2 c4 c5).trans ((g5 x c3).trans (f4.1 x c1 c6 c7 c8 c9)))
                    have f14 : ∀ j, j ≠ 40 → j ≠ 41 → j ≠ 42 → cp I6 116 115 75 114 j = I4 114 j := fun j c1 c2 c3 => (show cp I6 116 115 75 114 j = I6 114 j from if_neg (fun z => absurd z.1 (by decide))).trans ((f6.2.1 j c1 c2 c3).trans (congrFun (g5 114 (by decide)) j))
                    have f15 : ∀ y, y < 75 → cp I6 116 115 75 115 y = I 115 y := fun y hy => (if_pos ⟨rfl, hy⟩).trans ((congrFun (f6.1 116 (by decide) (by decide) (by decide) (by decide)) y).trans (h5 y hy))
                    obtain ⟨m1', ⟨k0, k1, k2, k3⟩, m3, m4, m5, m6⟩ := hM
                    refine hQ _ J ⟨fun i hi => ?_, ⟨fun i hi => ?_, ?_, ?_, ?_⟩, fun z => ?_, ⟨?_, ?_⟩, fun j hj => absurd hj (Nat.not_lt_zero j), fun j => ?_⟩ (fun a a1 => far a (by omega) (by omega) (by omega) (by omega) (by omega) (by omega) (by omega) (by omega) (by omega)) ((f14 16 (by decide) (by decide) (by decide)).trans (f4.2.1 16 (by unfold fkR; omega))) (fun a a1 a2 => far a (by omega) (by omega) (by omega) (by omega) (by omega) (by omega) (by omega) (by omega) (by omega))
                    · rw [far 118 (by decide) (by decide) (by decide) (by decide) (by decide) (by decide) (by decide) (by decide) (by decide), far 119 (by decide) (by decide) (by decide) (by decide) (by decide) (by decide) (by decide) (by decide) (by decide), far 120 (by decide) (by decide) (by decide) (by decide) (by decide) (by decide) (by decide) (by decide) (by decide)]
                      exact m1' i hi
                    · rw [f15 i (by omega), f15 (12 + i) (by omega), f15 (24 + i) (by omega), f15 (36 + i) (by omega), f15 (48 + i) (by omega), f15 (60 + i) (by omega)]
                      exact k0 i hi
                    · rw [f15 72 (by decide)]
                      exact k1
                    · rw [f15 73 (by decide)]
                      exact k2
                    · rw [f15 74 (by decide)]
                      exact k3
                    · rw [far 117 (by decide) (by decide) (by decide) (by decide) (by decide) (by decide) (by decide) (by decide) (by decide)]
                      exact m3 z
                    · exact (f14 7 (by decide) (by decide) (by decide)).trans f4.2.2
                    · exact (f14 58 (by decide) (by decide) (by decide)).trans ((f4.2.1 58 (by unfold fkR; omega)).trans m4.2)
                    · rw [far 140 (by decide) (by decide) (by decide) (by decide) (by decide) (by decide) (by decide) (by decide) (by decide)]
                      exact m6 j
                · skip
                  exact absurd rfl (z _ (by omega) (by omega))
              · skip
                exact absurd rfl (z _ (by omega) (by omega))
            · skip
              exact absurd (tk_of hk h0) z
          · skip
            rw [nI_clamp (n := 7) (by decide)] at hQ
            refine E_aload_n dX12_tried_0 rfl ?_
            refine E_iload_n dX12_tried_1 rfl ?_
            refine E_callV (As := [_]) (ci := 11) (kc' := 0) (ks' := 0) (kc := 0) (ks := 0) dX12_tried_2 ok_X12_isTold w_X12_340 i_X12_isTold s_X12_isTold rfl (by decide) rfl (Nat.lt_of_lt_of_le (by decide) hN) rfl rfl rfl (Nat.le_of_ble_eq_true rfl) (Nat.le_of_ble_eq_true rfl) (Nat.le_refl _) (M_isTold (d := 898) hB hM hN hR (fun j hj e hj0 => ?_) (fun z => ?_))
            · skip
              refine E_zN_eq (a := 1) (tgt := 36) dX12_tried_5 (by decide) (by decide) (fun cw5 => absurd cw5 (by omega)) (fun cw5 => ?_)
              refine E_iload_n dX12_tried_8 rfl ?_
              refine E_ic (nI 1) dX12_tried_9 (by decide) ?_
              refine E_bp (nI 60) dX12_tried_10 (by decide) ?_
              refine E_callS (As := [_, _, _]) (kc' := 0) (ks' := 0) (kc := 0) (ks := 0) dX12_tried_12 ok_X12_in w_X12_124 st_X12_in rfl rfl rfl (Nat.le_of_ble_eq_true rfl) (Nat.le_of_ble_eq_true rfl) (Nat.le_refl _) (M_in (x := nI m) (by decide) (by decide) (fun _ _ _ _ => ?_) (fun z => ?_))
              · skip
                refine E_zN_eq (a := 1) (tgt := 36) dX12_tried_15 (by decide) (by decide) (fun cw15 => absurd cw15 (by omega)) (fun cw15 => ?_)
                refine E_iload_n dX12_tried_18 rfl ?_
                refine E_ic (nI 0) dX12_tried_19 (by decide) ?_
                refine E_bp (nI 7) dX12_tried_20 (by decide) ?_
                refine E_callS (As := [_, _, _]) (kc' := 0) (ks' := 0) (kc := 0) (ks := 0) dX12_tried_22 ok_X12_in w_X12_124 st_X12_in rfl rfl rfl (Nat.le_of_ble_eq_true rfl) (Nat.le_of_ble_eq_true rfl) (Nat.le_refl _) (M_in (x := nI 7) (by decide) (by decide) (fun _ _ _ _ => ?_) (fun z => ?_))
                · skip
                  refine E_zN_eq (a := 1) (tgt := 36) dX12_tried_25 (by decide) (by decide) (fun cw25 => absurd cw25 (by omega)) (fun cw25 => ?_)
                  refine E_iload_n dX12_tried_28 rfl ?_
                  refine E_aload_n dX12_tried_29 rfl ?_
                  refine E_getI dX12_tried_30 f_X12_128 rfl (Nat.lt_of_lt_of_le (by decide) hN) rfl ?_
                  refine E.top (hM.2.2.2.1.1) ?_
                  refine E_cN_le (a := m) (b := σ 9 0 0) (tgt := 38) dX12_tried_33 (by omega) (by omega) (by decide) (fun cw33 => ?_) (fun cw33 => absurd cw33 (by omega))
                  refine E_aload_n dX12_tried_38 rfl ?_
                  refine E_iload_n dX12_tried_39 rfl ?_
                  refine E_ic (nI 0) dX12_tried_40 (by decide) ?_
                  refine E_callV (As := [_, _]) (ci := 11) (kc' := 0) (ks' := 0) (kc := 0) (ks := 0) dX12_tried_41 ok_X12_readsRow w_X12_276 i_X12_readsRow s_X12_readsRow rfl (by decide) rfl (Nat.lt_of_lt_of_le (by decide) hN) rfl rfl rfl (Nat.le_of_ble_eq_true rfl) (Nat.le_of_ble_eq_true rfl) (Nat.le_refl _) (m_readsRow0 (d := 895) hN hR hc m1 (by omega) (fun j hj => hM.2.2.2.2.1 j (by omega)) ?_)
                  cases hr : rdS 0 96 m (ccS (tpS σ) m) with
                  | inl z =>
                    have hQ : ∀ (I' : IM) (J' : JM), MR (u0 σ) I' → (∀ a, a < 114 → I' a = I a) → I' 114 16 = I 114 16 → (∀ a, 128 ≤ a → a ≤ 132 → I' a = I a) → Q (some (.int (z))) n I' J' R := by rw [hr] at hQ; exact hQ
                    intro I4 f4 e4
                    refine E_zN_ne (a := 0) (tgt := 52) dX12_tried_44 (by decide) (by decide) (fun cw44 => absurd cw44 (by omega)) (fun cw44 => ?_)
                    refine E_aload_n dX12_tried_47 rfl ?_
                    refine E_getI dX12_tried_48 f_X12_146 rfl (Nat.lt_of_lt_of_le (by decide) hN) rfl ?_
                    refine E.top (e4) ?_
                    exact E_iret dX12_tried_51 rfl (hQ I4 J ⟨fun i hi => by rw [f4.1 118 (by decide) (by decide) (by decide) (by decide) (by decide), f4.1 119 (by decide) (by decide) (by decide) (by decide) (by decide), f4.1 120 (by decide) (by decide) (by decide) (by decide) (by decide)]; exact hM.1 i hi, by rw [f4.1 115 (by decide) (by decide) (by decide) (by decide) (by decide)]; exact hM.2.1, fun z => by rw [f4.1 117 (by decide) (by decide) (by decide) (by decide) (by decide)]; exact hM.2.2.1 z, ⟨f4.2.2, (f4.2.1 58 (by unfold fkR; omega)).trans hM.2.2.2.1.2⟩, fun j hj => absurd hj (Nat.not_lt_zero j), fun j => by rw [f4.1 140 (by decide) (by decide) (by decide) (by decide) (by decide)]; exact hM.2.2.2.2.2 j⟩ (fun a a1 => f4.1 a (by omega) (by omega) (by omega) (by omega) (by omega)) (f4.2.1 16 (by unfold fkR; omega)) (fun a a1 a2 => f4.1 a (by omega) (by omega) (by omega) (by omega) (by omega)))
                  | inr r =>
                    have hQ : ∀ (I' : IM) (J' : JM), MR (u0 σ) I' → (∀ a, a < 114 → I' a = I a) → I' 114 16 = I 114 16 → (∀ a, 128 ≤ a → a ≤ 132 → I' a = I a) → Q (some (.int (askR σ k 7 (rnQ q σ k r)))) n I' J' R := by rw [hr] at hQ; exact hQ
                    obtain ⟨⟨a1, a2, a3, a4, a5⟩, _⟩ := rd_ok hc hr
                    intro I4 f4 n4 i4
                    have e15 : I4 115 = I 115 := f4.1 115 (by decide) (by decide) (by decide) (by decide) (by decide)
                    have g5 : ∀ x, x ≠ 116 → (cp I4 115 116 75) x = I4 x := fun x hx => funext fun y => if_neg (fun z => hx z.1)
                    have h5 : ∀ y, y < 75 → (cp I4 115 116 75) 116 y = I 115 y := fun y hy => (if_pos ⟨rfl, hy⟩).trans (congrFun e15 y)
                    have hX4 : MCr k (σ 0 k 0) (σ 1 k) (σ 2 k) q (cp I4 115 116 75) := ⟨(congrFun ((g5 118 (by decide)).trans (f4.1 118 (by decide) (by decide) (by decide) (by decide) (by decide))) k).trans (hM.1 k hk).1, fun i hi => by rw [g5 119 (by decide), g5 120 (by decide), f4.1 119 (by decide) (by decide) (by decide) (by decide) (by decide), f4.1 120 (by decide) (by decide) (by decide) (by decide) (by decide)]; exact (hM.1 k hk).2 i hi, hl.keep ((congrFun (g5 114 (by decide)) 16).trans (f4.2.1 16 (by unfold fkR; omega))) (fun a a1 a2 => (g5 a (by omega)).trans (f4.1 a (by omega) (by omega) (by omega) (by omega) (by omega)))⟩
                    have c9 : σ 4 1 0 ≤ 9999 := hB.2.1.2.1
                    have w4 := hM.2.1.1 k hk
                    have e15b : (cp I4 115 116 75) 115 = I 115 := (g5 115 (by decide)).trans e15
                    have row4 : (cp I4 115 116 75) 115 k = nI (σ 3 k 0) ∧ (cp I4 115 116 75) 115 (12 + k) = nI (σ 3 k 1) ∧ (cp I4 115 116 75) 115 (24 + k) = nI (σ 3 k 2) ∧ (cp I4 115 116 75) 115 (60 + k) = nI (σ 3 k 3) ∧ (cp I4 115 116 75) 115 (36 + k) = nI (σ 3 k 4) ∧ (cp I4 115 116 75) 115 (48 + k) = nI (σ 3 k 5) := by rw [e15b]; exact ⟨w4.1, w4.2.1, w4.2.2.1, w4.2.2.2.2.2, w4.2.2.2.1, w4.2.2.2.2.1⟩
                    refine E_zN_ne (a := 1) (tgt := 52) dX12_tried_44 (by decide) (by decide) (fun cw44 => ?_) (fun cw44 => absurd cw44 (by omega))
                    refine E_aload_n dX12_tried_52 rfl ?_
                    refine E_getR dX12_tried_53 f_X12_7 rfl (Nat.lt_of_lt_of_le (by decide) hN) rfl (hR _ _ _ rfl) ?_
                    refine E_aload_n dX12_tried_56 rfl ?_
                    refine E_getR dX12_tried_57 f_X12_13 rfl (Nat.lt_of_lt_of_le (by decide) hN) rfl (hR _ _ _ rfl) ?_
                    refine E_callS (As := [_, _]) (kc' := 0) (ks' := 0) (kc := 0) (ks := 0) dX12_tried_60 ok_X12_copies w_X12_346 st_X12_copies rfl rfl rfl (Nat.le_of_ble_eq_true rfl) (Nat.le_of_ble_eq_true rfl) (Nat.le_refl _) (m_copies rfl rfl (Nat.lt_of_lt_of_le (by decide) hN) (Nat.lt_of_lt_of_le (by decide) hN) (by decide) ?_)
                    refine E_aload_n dX12_tried_63 rfl ?_
                    refine E_iload_n dX12_tried_64 rfl ?_
                    refine E_callV (As := [_]) (ci := 11) (kc' := 0) (ks' := 0) (kc := 0) (ks := 0) dX12_tried_65 ok_X12_draws w_X12_343 i_X12_draws s_X12_draws rfl (by decide) rfl (Nat.lt_of_lt_of_le (by decide) hN) rfl rfl rfl (Nat.le_of_ble_eq_true rfl) (Nat.le_of_ble_eq_true rfl) (Nat.le_refl _) (m_draws (d := 893) (k := k) (c0 := σ 4 1 0) (sc := σ 4 0 0) (l := σ 4 2 0) (f := r.2.2) (s := σ 3 k) hN hR hk hq (hB.1 k hk).1 a4 (fun i hi => a5 i hi) hX4 (bgD_ok hB hk) row4 (by rw [e15b]; exact hM.2.1.2.1) (by rw [e15b]; exact hM.2.1.2.2.1) c9 hB.2.1.2.2 (by rw [e15b]; exact hM.2.1.2.2.2) ((congrFun (g5 114 (by decide)) 34).trans n4) (fun j hj => (congrFun (g5 135 (by decide)) j).trans (i4 j hj)) (fun I6 f6 d6 l6 b6 => ?_))
                    revert hQ d6 l6 b6
                    show _ → _ → _ → _ → E g mX12_tried _ _ _ _ _ _ _ _ _ _ _
                    rw [show rnS q k (σ 0 k 0) (σ 1 k) (σ 2 k) r.2.2 r.2.1 0 (bgD (σ 3 k) (σ 4 0 0)) (σ 4 2 0) (if σ 3 k 5 = 0 then -2 else -3) = rnQ q σ k r from rfl]
                    generalize rnQ q σ k r = o
                    intro hQ d6 l6 b6
                    refine E_iload_n dX12_tried_68 rfl ?_
                    refine E_tin (tgt := 143) dX12_tried_69 (by decide) (by decide) rfl (by decide) ?_
                    refine E_aload_n dX12_tried_143 rfl ?_
                    refine E_getR dX12_tried_144 f_X12_7 rfl (Nat.lt_of_lt_of_le (by decide) hN) rfl (hR _ _ _ rfl) ?_
                    refine E_bp (nI 72) dX12_tried_147 (by decide) ?_
                    refine E_ialdN dX12_tried_149 rfl (Nat.lt_of_lt_of_le (by decide) hN) (by decide) ?_
                    refine E.top ((d6.2 rfl).1) ?_
                    refine E_istore dX12_tried_150 (Nat.le_of_ble_eq_true rfl) ?_
                    refine E_goto (tgt := 172) dX12_tried_152 (by decide) ?_
                    refine E_aload_n dX12_tried_172 rfl ?_
                    refine E_getR dX12_tried_173 f_X12_13 rfl (Nat.lt_of_lt_of_le (by decide) hN) rfl (hR _ _ _ rfl) ?_
                    refine E_aload_n dX12_tried_176 rfl ?_
                    refine E_getR dX12_tried_177 f_X12_7 rfl (Nat.lt_of_lt_of_le (by decide) hN) rfl (hR _ _ _ rfl) ?_
                    refine E_callS (As := [_, _]) (kc' := 0) (ks' := 0) (kc := 0) (ks := 0) dX12_tried_180 ok_X12_copies w_X12_346 st_X12_copies rfl rfl rfl (Nat.le_of_ble_eq_true rfl) (Nat.le_of_ble_eq_true rfl) (Nat.le_refl _) (m_copies rfl rfl (Nat.lt_of_lt_of_le (by decide) hN) (Nat.lt_of_lt_of_le (by decide) hN) (by decide) ?_)
                    refine E_iload dX12_tried_183 rfl ?_
                    refine E_iret dX12_tried_185 rfl ?_
                    have far : ∀ x, x ≠ 114 → x ≠ 115 → x ≠ 116 → x ≠ 133 → x ≠ 134 → x ≠ 135 → x ≠ 136 → x ≠ 137 → x ≠ 138 → cp I6 116 115 75 x = I x := fun x c1 c2 c3 c4 c5 c6 c7 c8 c9 => (show cp I6 116 115 75 x = I6 x from funext fun y => if_neg (fun z => c2 z.1)).trans ((f6.1 x c1 c2 c4 c5).trans ((g5 x c3).trans (f4.1 x c1 c6 c7 c8 c9)))
                    have f14 : ∀ j, j ≠ 40 → j ≠ 41 → j ≠ 42 → cp I6 116 115 75 114 j = I4 114 j := fun j c1 c2 c3 => (show cp I6 116 115 75 114 j = I6 114 j from if_neg (fun z => absurd z.1 (by decide))).trans ((f6.2.1 j c1 c2 c3).trans (congrFun (g5 114 (by decide)) j))
                    have f15 : ∀ y, y < 75 → cp I6 116 115 75 115 y = I 115 y := fun y hy => (if_pos ⟨rfl, hy⟩).trans ((congrFun (f6.1 116 (by decide) (by decide) (by decide) (by decide)) y).trans (h5 y hy))
                    obtain ⟨m1', ⟨k0, k1, k2, k3⟩, m3, m4, m5, m6⟩ := hM
                    refine hQ _ J ⟨fun i hi => ?_, ⟨fun i hi => ?_, ?_, ?_, ?_⟩, fun z => ?_, ⟨?_, ?_⟩, fun j hj => absurd hj (Nat.not_lt_zero j), fun j => ?_⟩ (fun a a1 => far a (by omega) (by omega) (by omega) (by omega) (by omega) (by omega) (by omega) (by omega) (by omega)) ((f14 16 (by decide) (by decide) (by decide)).trans (f4.2.1 16 (by unfold fkR; omega))) (fun a a1 a2 => far a (by omega) (by omega) (by omega) (by omega) (by omega) (by omega) (by omega) (by omega) (by omega))
                    · rw [far 118 (by decide) (by decide) (by decide) (by decide) (by decide) (by decide) (by decide) (by decide) (by decide), far 119 (by decide) (by decide) (by decide) (by decide) (by decide) (by decide) (by decide) (by decide) (by decide), far 120 (by decide) (by decide) (by decide) (by decide) (by decide) (by decide) (by decide) (by decide) (by decide)]
                      exact m1' i hi
                    · rw [f15 i (by omega), f15 (12 + i) (by omega), f15 (24 + i) (by omega), f15 (36 + i) (by omega), f15 (48 + i) (by omega), f15 (60 + i) (by omega)]
                      exact k0 i hi
                    · rw [f15 72 (by decide)]
                      exact k1
                    · rw [f15 73 (by decide)]
                      exact k2
                    · rw [f15 74 (by decide)]
                      exact k3
                    · rw [far 117 (by decide) (by decide) (by decide) (by decide) (by decide) (by decide) (by decide) (by decide) (by decide)]
                      exact m3 z
                    · exact (f14 7 (by decide) (by decide) (by decide)).trans f4.2.2
                    · exact (f14 58 (by decide) (by decide) (by decide)).trans ((f4.2.1 58 (by unfold fkR; omega)).trans m4.2)
                    · rw [far 140 (by decide) (by decide) (by decide) (by decide) (by decide) (by decide) (by decide) (by decide) (by decide)]
                      exact m6 j
                · skip
                  exact absurd rfl (z _ (by omega) (by omega))
              · skip
                exact absurd rfl (z _ (by omega) (by omega))
            · skip
              exact absurd (tk_of hk h0) z
        · have hq2 := hNO (fun z => by obtain ⟨⟨_, m2, q1, q2, q3, q4⟩, _⟩ := z; have := (nI_eq (by omega) (by omega)).mp q4; omega)
          refine E_aload_n dX12_tried_0 rfl ?_
          refine E_iload_n dX12_tried_1 rfl ?_
          refine E_callV (As := [_]) (ci := 11) (kc' := 0) (ks' := 0) (kc := 0) (ks := 0) dX12_tried_2 ok_X12_isTold w_X12_340 i_X12_isTold s_X12_isTold rfl (by decide) rfl (Nat.lt_of_lt_of_le (by decide) hN) rfl rfl rfl (Nat.le_of_ble_eq_true rfl) (Nat.le_of_ble_eq_true rfl) (Nat.le_refl _) (M_isTold (d := 898) hB hM hN hR (fun j hj e hj0 => ?_) (fun z => ?_))
          · skip
            refine E_zN_eq (a := 1) (tgt := 36) dX12_tried_5 (by decide) (by decide) (fun cw5 => absurd cw5 (by omega)) (fun cw5 => ?_)
            refine E_iload_n dX12_tried_8 rfl ?_
            refine E_ic (nI 1) dX12_tried_9 (by decide) ?_
            refine E_bp (nI 60) dX12_tried_10 (by decide) ?_
            refine E_callS (As := [_, _, _]) (kc' := 0) (ks' := 0) (kc := 0) (ks := 0) dX12_tried_12 ok_X12_in w_X12_124 st_X12_in rfl rfl rfl (Nat.le_of_ble_eq_true rfl) (Nat.le_of_ble_eq_true rfl) (Nat.le_refl _) (M_in (x := nI m) (by decide) (by decide) (fun _ _ _ _ => ?_) (fun z => ?_))
            · skip
              refine E_zN_eq (a := 1) (tgt := 36) dX12_tried_15 (by decide) (by decide) (fun cw15 => absurd cw15 (by omega)) (fun cw15 => ?_)
              refine E_iload_n dX12_tried_18 rfl ?_
              refine E_ic (nI 0) dX12_tried_19 (by decide) ?_
              refine E_bp (nI 7) dX12_tried_20 (by decide) ?_
              refine E_callS (As := [_, _, _]) (kc' := 0) (ks' := 0) (kc := 0) (ks := 0) dX12_tried_22 ok_X12_in w_X12_124 st_X12_in rfl rfl rfl (Nat.le_of_ble_eq_true rfl) (Nat.le_of_ble_eq_true rfl) (Nat.le_refl _) (M_in (x := nI v) (by decide) (by decide) (fun _ _ _ _ => ?_) (fun z => ?_))
              · skip
                refine E_zN_eq (a := 1) (tgt := 36) dX12_tried_25 (by decide) (by decide) (fun cw25 => absurd cw25 (by omega)) (fun cw25 => ?_)
                refine E_iload_n dX12_tried_28 rfl ?_
                refine E_aload_n dX12_tried_29 rfl ?_
                refine E_getI dX12_tried_30 f_X12_128 rfl (Nat.lt_of_lt_of_le (by decide) hN) rfl ?_
                refine E.top (hM.2.2.2.1.1) ?_
                refine E_cN_le (a := m) (b := σ 9 0 0) (tgt := 38) dX12_tried_33 (by omega) (by omega) (by decide) (fun cw33 => absurd cw33 (by omega)) (fun cw33 => ?_)
                refine E_ic (-1) dX12_tried_36 (by decide) ?_
                exact E_iret dX12_tried_37 rfl (hq2)
              · skip
                exact absurd rfl (z _ (by omega) (by omega))
            · skip
              exact absurd rfl (z _ (by omega) (by omega))
          · skip
            exact absurd (tk_of hk h0) z
      · have hq2 := hNO (fun z => hv z.2)
        refine E_aload_n dX12_tried_0 rfl ?_
        refine E_iload_n dX12_tried_1 rfl ?_
        refine E_callV (As := [_]) (ci := 11) (kc' := 0) (ks' := 0) (kc := 0) (ks := 0) dX12_tried_2 ok_X12_isTold w_X12_340 i_X12_isTold s_X12_isTold rfl (by decide) rfl (Nat.lt_of_lt_of_le (by decide) hN) rfl rfl rfl (Nat.le_of_ble_eq_true rfl) (Nat.le_of_ble_eq_true rfl) (Nat.le_refl _) (M_isTold (d := 898) hB hM hN hR (fun j hj e hj0 => ?_) (fun z => ?_))
        · skip
          refine E_zN_eq (a := 1) (tgt := 36) dX12_tried_5 (by decide) (by decide) (fun cw5 => absurd cw5 (by omega)) (fun cw5 => ?_)
          refine E_iload_n dX12_tried_8 rfl ?_
          refine E_ic (nI 1) dX12_tried_9 (by decide) ?_
          refine E_bp (nI 60) dX12_tried_10 (by decide) ?_
          refine E_callS (As := [_, _, _]) (kc' := 0) (ks' := 0) (kc := 0) (ks := 0) dX12_tried_12 ok_X12_in w_X12_124 st_X12_in rfl rfl rfl (Nat.le_of_ble_eq_true rfl) (Nat.le_of_ble_eq_true rfl) (Nat.le_refl _) (M_in (x := nI m) (by decide) (by decide) (fun _ _ _ _ => ?_) (fun z => ?_))
          · skip
            refine E_zN_eq (a := 1) (tgt := 36) dX12_tried_15 (by decide) (by decide) (fun cw15 => absurd cw15 (by omega)) (fun cw15 => ?_)
            refine E_iload_n dX12_tried_18 rfl ?_
            refine E_ic (nI 0) dX12_tried_19 (by decide) ?_
            refine E_bp (nI 7) dX12_tried_20 (by decide) ?_
            refine E_callS (As := [_, _, _]) (kc' := 0) (ks' := 0) (kc := 0) (ks := 0) dX12_tried_22 ok_X12_in w_X12_124 st_X12_in rfl rfl rfl (Nat.le_of_ble_eq_true rfl) (Nat.le_of_ble_eq_true rfl) (Nat.le_refl _) (M_in (by decide) (by decide) (fun m q1 q2 q3 => ?_) (fun z => ?_))
            · skip
              exact absurd ⟨m, q2, q3⟩ hv
            · skip
              refine E_zN_eq (a := 0) (tgt := 36) dX12_tried_25 (by decide) (by decide) (fun cw25 => ?_) (fun cw25 => absurd cw25 (by omega))
              refine E_ic (-1) dX12_tried_36 (by decide) ?_
              exact E_iret dX12_tried_37 rfl (hq2)
          · skip
            exact absurd rfl (z _ (by omega) (by omega))
        · skip
          exact absurd (tk_of hk h0) z
    · have hq2 := hNO (fun z => by obtain ⟨⟨_, m2, q1, q2, q3, q4⟩, _⟩ := z; exact hw ⟨m2, q1, q2, q4⟩)
      refine E_aload_n dX12_tried_0 rfl ?_
      refine E_iload_n dX12_tried_1 rfl ?_
      refine E_callV (As := [_]) (ci := 11) (kc' := 0) (ks' := 0) (kc := 0) (ks := 0) dX12_tried_2 ok_X12_isTold w_X12_340 i_X12_isTold s_X12_isTold rfl (by decide) rfl (Nat.lt_of_lt_of_le (by decide) hN) rfl rfl rfl (Nat.le_of_ble_eq_true rfl) (Nat.le_of_ble_eq_true rfl) (Nat.le_refl _) (M_isTold (d := 898) hB hM hN hR (fun j hj e hj0 => ?_) (fun z => ?_))
      · skip
        refine E_zN_eq (a := 1) (tgt := 36) dX12_tried_5 (by decide) (by decide) (fun cw5 => absurd cw5 (by omega)) (fun cw5 => ?_)
        refine E_iload_n dX12_tried_8 rfl ?_
        refine E_ic (nI 1) dX12_tried_9 (by decide) ?_
        refine E_bp (nI 60) dX12_tried_10 (by decide) ?_
        refine E_callS (As := [_, _, _]) (kc' := 0) (ks' := 0) (kc := 0) (ks := 0) dX12_tried_12 ok_X12_in w_X12_124 st_X12_in rfl rfl rfl (Nat.le_of_ble_eq_true rfl) (Nat.le_of_ble_eq_true rfl) (Nat.le_refl _) (M_in (by decide) (by decide) (fun m q1 q2 q3 => ?_) (fun z => ?_))
        · skip
          exact absurd ⟨m, q1, q2, q3⟩ hw
        · skip
          refine E_zN_eq (a := 0) (tgt := 36) dX12_tried_15 (by decide) (by decide) (fun cw15 => ?_) (fun cw15 => absurd cw15 (by omega))
          refine E_ic (-1) dX12_tried_36 (by decide) ?_
          exact E_iret dX12_tried_37 rfl (hq2)
      · skip
        exact absurd (tk_of hk h0) z
  · have hq2 := hNO (fun z => hx z.1.1)
    refine E_aload_n dX12_tried_0 rfl ?_
    refine E_iload_n dX12_tried_1 rfl ?_
    refine E_callV (As := [_]) (ci := 11) (kc' := 0) (ks' := 0) (kc := 0) (ks := 0) dX12_tried_2 ok_X12_isTold w_X12_340 i_X12_isTold s_X12_isTold rfl (by decide) rfl (Nat.lt_of_lt_of_le (by decide) hN) rfl rfl rfl (Nat.le_of_ble_eq_true rfl) (Nat.le_of_ble_eq_true rfl) (Nat.le_refl _) (M_isTold (d := 898) hB hM hN hR (fun j hj e hj0 => ?_) (fun z => ?_))
    · skip
      subst e
      exact absurd (tk_of hj hj0) hx
    · skip
      refine E_zN_eq (a := 0) (tgt := 36) dX12_tried_5 (by decide) (by decide) (fun cw5 => ?_) (fun cw5 => absurd cw5 (by omega))
      refine E_ic (-1) dX12_tried_36 (by decide) ?_
      exact E_iret dX12_tried_37 rfl (hq2)
end PTriedM
