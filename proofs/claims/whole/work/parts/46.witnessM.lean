/-! ===== witness, the reference ===== -/
section PWitM
variable {g : GL} {d n : Nat} {I : IM} {J : JM} {R : RM} {Q : PQ} {σ : ST}
set_option maxRecDepth 100000 in
set_option maxHeartbeats 2000000 in
theorem m_becomesNew {k : Nat} (hN : 152 ≤ n) (hR : RS R) (hk : k < 12) (hQ : ∀ I2 : IM, (∀ x, x ≠ 115 → I2 x = I x) → (∀ j, j % 12 ≠ k → I2 115 j = I 115 j) → (∀ j, 72 ≤ j → I2 115 j = I 115 j) → I2 115 k = nI 0 → I2 115 (12 + k) = nI 9 → I2 115 (24 + k) = nI 0 → I2 115 (36 + k) = nI 0 → I2 115 (48 + k) = nI 0 → I2 115 (60 + k) = nI 0 → Q none n I2 J R) : E g mX12_becomesNew d 0 0 0 (ent 2 [.ref 114, .int (nI k)]) [] n I J R Q := by
  refine E_aload_n dX12_becomesNew_0 rfl ?_
  refine E_getR dX12_becomesNew_1 f_X12_7 rfl (Nat.lt_of_lt_of_le (by decide) hN) rfl (hR _ _ _ rfl) ?_
  refine E_ic (nI 0) dX12_becomesNew_4 (by decide) ?_
  refine E_iload_n dX12_becomesNew_5 rfl ?_
  refine E_iadd dX12_becomesNew_6 ?_
  refine E.top (nI_add 0 k) ?_
  refine E.top (congrArg nI (Nat.zero_add k)) ?_
  refine E_ic (nI 0) dX12_becomesNew_7 (by decide) ?_
  refine E_iastN dX12_becomesNew_8 rfl (Nat.lt_of_lt_of_le (by decide) hN) (by omega) ?_
  refine E_aload_n dX12_becomesNew_9 rfl ?_
  refine E_getR dX12_becomesNew_10 f_X12_7 rfl (Nat.lt_of_lt_of_le (by decide) hN) rfl (hR _ _ _ rfl) ?_
  refine E_bp (nI 12) dX12_becomesNew_13 (by decide) ?_
  refine E_iload_n dX12_becomesNew_15 rfl ?_
  refine E_iadd dX12_becomesNew_16 ?_
  refine E.top (nI_add 12 k) ?_
  refine E_bp (nI 9) dX12_becomesNew_17 (by decide) ?_
  refine E_iastN dX12_becomesNew_19 rfl (Nat.lt_of_lt_of_le (by decide) hN) (by omega) ?_
  refine E_aload_n dX12_becomesNew_20 rfl ?_
  refine E_getR dX12_becomesNew_21 f_X12_7 rfl (Nat.lt_of_lt_of_le (by decide) hN) rfl (hR _ _ _ rfl) ?_
  refine E_bp (nI 24) dX12_becomesNew_24 (by decide) ?_
  refine E_iload_n dX12_becomesNew_26 rfl ?_
  refine E_iadd dX12_becomesNew_27 ?_
  refine E.top (nI_add 24 k) ?_
  refine E_ic (nI 0) dX12_becomesNew_28 (by decide) ?_
  refine E_iastN dX12_becomesNew_29 rfl (Nat.lt_of_lt_of_le (by decide) hN) (by omega) ?_
  refine E_aload_n dX12_becomesNew_30 rfl ?_
  refine E_getR dX12_becomesNew_31 f_X12_7 rfl (Nat.lt_of_lt_of_le (by decide) hN) rfl (hR _ _ _ rfl) ?_
  refine E_bp (nI 36) dX12_becomesNew_34 (by decide) ?_
  refine E_iload_n dX12_becomesNew_36 rfl ?_
  refine E_iadd dX12_becomesNew_37 ?_
  refine E.top (nI_add 36 k) ?_
  refine E_ic (nI 0) dX12_becomesNew_38 (by decide) ?_
  refine E_iastN dX12_becomesNew_39 rfl (Nat.lt_of_lt_of_le (by decide) hN) (by omega) ?_
  refine E_aload_n dX12_becomesNew_40 rfl ?_
  refine E_getR dX12_becomesNew_41 f_X12_7 rfl (Nat.lt_of_lt_of_le (by decide) hN) rfl (hR _ _ _ rfl) ?_
  refine E_bp (nI 48) dX12_becomesNew_44 (by decide) ?_
  refine E_iload_n dX12_becomesNew_46 rfl ?_
  refine E_iadd dX12_becomesNew_47 ?_
  refine E.top (nI_add 48 k) ?_
  refine E_ic (nI 0) dX12_becomesNew_48 (by decide) ?_
  refine E_iastN dX12_becomesNew_49 rfl (Nat.lt_of_lt_of_le (by decide) hN) (by omega) ?_
  refine E_aload_n dX12_becomesNew_50 rfl ?_
  refine E_getR dX12_becomesNew_51 f_X12_7 rfl (Nat.lt_of_lt_of_le (by decide) hN) rfl (hR _ _ _ rfl) ?_
  refine E_bp (nI 60) dX12_becomesNew_54 (by decide) ?_
  refine E_iload_n dX12_becomesNew_56 rfl ?_
  refine E_iadd dX12_becomesNew_57 ?_
  refine E.top (nI_add 60 k) ?_
  refine E_ic (nI 0) dX12_becomesNew_58 (by decide) ?_
  refine E_iastN dX12_becomesNew_59 rfl (Nat.lt_of_lt_of_le (by decide) hN) (by omega) ?_
  exact E_ret dX12_becomesNew_60 rfl (hQ _ (fun x hx => by rw [up2_o _ 115 _ _ x hx, up2_o _ 115 _ _ x hx, up2_o _ 115 _ _ x hx, up2_o _ 115 _ _ x hx, up2_o _ 115 _ _ x hx, up2_o _ 115 _ _ x hx]) (fun j hj => by rw [up2_k _ _ (by omega), up2_k _ _ (by omega), up2_k _ _ (by omega), up2_k _ _ (by omega), up2_k _ _ (by omega), up2_k _ _ (by omega)]) (fun j hj => by rw [up2_k _ _ (by omega), up2_k _ _ (by omega), up2_k _ _ (by omega), up2_k _ _ (by omega), up2_k _ _ (by omega), up2_k _ _ (by omega)]) (by rw [up2_k _ _ (by omega), up2_k _ _ (by omega), up2_k _ _ (by omega), up2_k _ _ (by omega), up2_k _ _ (by omega)]; exact up2_s _ _ _ _) (by rw [up2_k _ _ (by omega), up2_k _ _ (by omega), up2_k _ _ (by omega), up2_k _ _ (by omega)]; exact up2_s _ _ _ _) (by rw [up2_k _ _ (by omega), up2_k _ _ (by omega), up2_k _ _ (by omega)]; exact up2_s _ _ _ _) (by rw [up2_k _ _ (by omega), up2_k _ _ (by omega)]; exact up2_s _ _ _ _) (by rw [up2_k _ _ (by omega)]; exact up2_s _ _ _ _) (up2_s _ _ _ _))
set_option maxRecDepth 100000 in
set_option maxHeartbeats 2000000 in
theorem sm_witness (x w : Int32) : SM mX12_witness [.int x, .int w] (r_witness x w) (u_witness x w) := by
  intro g n I J R σ Q hB hM hN hR hQ
  have b9 : σ 9 0 0 ≤ 260 := hB.2.2.2.2.2.1
  unfold r_witness u_witness at hQ
  have hNO : ¬ gW σ x w → Q (some (.int (-1))) n I J R := fun hno => by
    rw [gd_f hno] at hQ
    rw [gd_f hno] at hQ
    exact hQ I J hM (fun _ _ => rfl) rfl (fun _ _ _ => rfl)
  by_cases hx : rg x 11
  · obtain ⟨k, hk2, rfl⟩ := hx
    have hk : k < 12 := by omega
    by_cases hw : ∃ m, 1 ≤ m ∧ m ≤ 80 ∧ w = nI m
    · obtain ⟨m, m1, m2, rfl⟩ := hw
      by_cases hm9 : m ≤ σ 9 0 0
      · have hg : gW σ (nI k) (nI m) := ⟨rg_of (by omega), tp_of m1 m2 hm9⟩
        rw [gd_t hg, gd_t hg, nI_clamp (n := m) (by omega), nI_clamp (n := k) (by omega)] at hQ
        have hc := tp_okc hB hm9
        refine E_iload_n dX12_witness_0 rfl ?_
        refine E_ic (nI 0) dX12_witness_1 (by decide) ?_
        refine E_bp (nI 11) dX12_witness_2 (by decide) ?_
        refine E_callS (As := [_, _, _]) (kc' := 0) (ks' := 0) (kc := 0) (ks := 0) dX12_witness_4 ok_X12_in w_X12_124 st_X12_in rfl rfl rfl (Nat.le_of_ble_eq_true rfl) (Nat.le_of_ble_eq_true rfl) (Nat.le_refl _) (M_in (x := nI k) (by decide) (by decide) (fun _ _ _ _ => ?_) (fun z => ?_))
        · skip
          refine E_zN_eq (a := 1) (tgt := 28) dX12_witness_7 (by decide) (by decide) (fun cw7 => absurd cw7 (by omega)) (fun cw7 => ?_)
          refine E_iload_n dX12_witness_10 rfl ?_
          refine E_ic (nI 1) dX12_witness_11 (by decide) ?_
          refine E_bp (nI 80) dX12_witness_12 (by decide) ?_
          refine E_callS (As := [_, _, _]) (kc' := 0) (ks' := 0) (kc := 0) (ks := 0) dX12_witness_14 ok_X12_in w_X12_124 st_X12_in rfl rfl rfl (Nat.le_of_ble_eq_true rfl) (Nat.le_of_ble_eq_true rfl) (Nat.le_refl _) (M_in (x := nI m) (by decide) (by decide) (fun _ _ _ _ => ?_) (fun z => ?_))
          · skip
            refine E_zN_eq (a := 1) (tgt := 28) dX12_witness_17 (by decide) (by decide) (fun cw17 => absurd cw17 (by omega)) (fun cw17 => ?_)
            refine E_iload_n dX12_witness_20 rfl ?_
            refine E_aload_n dX12_witness_21 rfl ?_
            refine E_getI dX12_witness_22 f_X12_128 rfl (Nat.lt_of_lt_of_le (by decide) hN) rfl ?_
            refine E.top (hM.2.2.2.1.1) ?_
            refine E_cN_le (a := m) (b := σ 9 0 0) (tgt := 30) dX12_witness_25 (by omega) (by omega) (by decide) (fun cw25 => ?_) (fun cw25 => absurd cw25 (by omega))
            refine E_aload_n dX12_witness_30 rfl ?_
            refine E_iload_n dX12_witness_31 rfl ?_
            refine E_ic (nI 1) dX12_witness_32 (by decide) ?_
            refine E_callV (As := [_, _]) (ci := 11) (kc' := 0) (ks' := 0) (kc := 0) (ks := 0) dX12_witness_33 ok_X12_readsRow w_X12_276 i_X12_readsRow s_X12_readsRow rfl (by decide) rfl (Nat.lt_of_lt_of_le (by decide) hN) rfl rfl rfl (Nat.le_of_ble_eq_true rfl) (Nat.le_of_ble_eq_true rfl) (Nat.le_refl _) (m_readsRow1 (d := 895) hN hR hc m1 (by omega) (fun j hj => hM.2.2.2.2.1 j (by omega)) ?_)
            cases hr : rdS 1 24 m (ccS (tpS σ) m) with
            | inl z =>
              have hQ : ∀ (I' : IM) (J' : JM), MR (u0 σ) I' → (∀ a, a < 114 → I' a = I a) → I' 114 16 = I 114 16 → (∀ a, 128 ≤ a → a ≤ 132 → I' a = I a) → Q (some (.int (z))) n I' J' R := by rw [hr] at hQ; exact hQ
              intro I4 f4 e4
              refine E_zN_ne (a := 0) (tgt := 44) dX12_witness_36 (by decide) (by decide) (fun cw36 => absurd cw36 (by omega)) (fun cw36 => ?_)
              refine E_aload_n dX12_witness_39 rfl ?_
              refine E_getI dX12_witness_40 f_X12_146 rfl (Nat.lt_of_lt_of_le (by decide) hN) rfl ?_
              refine E.top (e4) ?_
              exact E_iret dX12_witness_43 rfl (hQ I4 J ⟨fun i hi => by rw [f4.1 118 (by decide) (by decide) (by decide) (by decide) (by decide), f4.1 119 (by decide) (by decide) (by decide) (by decide) (by decide), f4.1 120 (by decide) (by decide) (by decide) (by decide) (by decide)]; exact hM.1 i hi, by rw [f4.1 115 (by decide) (by decide) (by decide) (by decide) (by decide)]; exact hM.2.1, fun z => by rw [f4.1 117 (by decide) (by decide) (by decide) (by decide) (by decide)]; exact hM.2.2.1 z, ⟨f4.2.2, (f4.2.1 58 (by unfold fkR; omega)).trans hM.2.2.2.1.2⟩, fun j hj => absurd hj (Nat.not_lt_zero j), fun j => by rw [f4.1 140 (by decide) (by decide) (by decide) (by decide) (by decide)]; exact hM.2.2.2.2.2 j⟩ (fun a a1 => f4.1 a (by omega) (by omega) (by omega) (by omega) (by omega)) (f4.2.1 16 (by unfold fkR; omega)) (fun a a1 a2 => f4.1 a (by omega) (by omega) (by omega) (by omega) (by omega)))
            | inr r =>
              have hQ : ∀ (I' : IM) (J' : JM), MR (uW k r.2.1 r.2.2 σ) I' → (∀ a, a < 114 → I' a = I a) → I' 114 16 = I 114 16 → (∀ a, 128 ≤ a → a ≤ 132 → I' a = I a) → Q (some (.int (nI r.2.1))) n I' J' R := by rw [hr] at hQ; exact hQ
              obtain ⟨⟨a1, a2, a3, a4, a5⟩, _⟩ := rd_ok hc hr
              intro I4 f4 n4 i4
              have hfin : ∀ (I2 I6 : IM), ((∀ x, x ≠ 118 → x ≠ 119 → x ≠ 120 → I2 x = I4 x) ∧ I2 118 k = nI r.2.1 ∧ (∀ j, j ≠ k → I2 118 j = I4 118 j) ∧ (∀ j, (j < 24 * k ∨ 24 * k + r.2.1 ≤ j) → I2 119 j = I4 119 j ∧ I2 120 j = I4 120 j) ∧ ∀ q, q < (r.2.1) → I2 119 (24 * k + q) = nI (r.2.2 q / 16) ∧ I2 120 (24 * k + q) = nI (r.2.2 q % 16)) → (∀ x, x ≠ 115 → I6 x = I2 x) → (∀ j, j % 12 ≠ k → I6 115 j = I2 115 j) → (∀ j, 72 ≤ j → I6 115 j = I2 115 j) → I6 115 k = nI 0 → I6 115 (12 + k) = nI 9 → I6 115 (24 + k) = nI 0 → I6 115 (36 + k) = nI 0 → I6 115 (48 + k) = nI 0 → I6 115 (60 + k) = nI 0 → Q (some (.int (nI r.2.1))) n I6 J R := by
                intro I2 I6 hv g6 b1 b2 b3 b4 b5 b6 b7 b8
                have far : ∀ x, x ≠ 115 → x ≠ 118 → x ≠ 119 → x ≠ 120 → x ≠ 114 → x ≠ 135 → x ≠ 136 → x ≠ 137 → x ≠ 138 → I6 x = I x := fun x c1 c2 c3 c4 c5 c6 c7 c8 c9 => (g6 x c1).trans ((hv.1 x c2 c3 c4).trans (f4.1 x c5 c6 c7 c8 c9))
                have f14 : I6 114 = I4 114 := (g6 114 (by decide)).trans (hv.1 114 (by decide) (by decide) (by decide))
                have f15 : I2 115 = I 115 := (hv.1 115 (by decide) (by decide) (by decide)).trans (f4.1 115 (by decide) (by decide) (by decide) (by decide) (by decide))
                obtain ⟨m1, ⟨k0, k1, k2, k3⟩, m3, m4, m5, m6⟩ := hM
                refine hQ I6 J ⟨fun i hi => ?_, ⟨fun i hi => ?_, ?_, ?_, ?_⟩, fun z => ?_, ⟨?_, ?_⟩, fun j hj => absurd hj (Nat.not_lt_zero j), fun j => ?_⟩ (fun a a1 => far a (by omega) (by omega) (by omega) (by omega) (by omega) (by omega) (by omega) (by omega) (by omega)) (by rw [f14, f4.2.1 16 (by unfold fkR; omega)]) (fun a a1 a2 => far a (by omega) (by omega) (by omega) (by omega) (by omega) (by omega) (by omega) (by omega) (by omega))
                · rw [g6 118 (by decide), g6 119 (by decide), g6 120 (by decide)]
                  by_cases e : i = k
                  · subst e
                    have e0 : uW i r.2.1 r.2.2 σ 0 i 0 = r.2.1 := if_pos rfl
                    rw [e0]
                    refine ⟨hv.2.1, fun q hq => ?_⟩
                    have e1 : uW i r.2.1 r.2.2 σ 1 i q = r.2.2 q / 16 := if_pos rfl
                    have e2 : uW i r.2.1 r.2.2 σ 2 i q = r.2.2 q % 16 := if_pos rfl
                    rw [e1, e2]
                    exact hv.2.2.2.2 q hq
                  · have e0 : uW k r.2.1 r.2.2 σ 0 i 0 = σ 0 i 0 := if_neg e
                    rw [e0, hv.2.2.1 i e, f4.1 118 (by decide) (by decide) (by decide) (by decide) (by decide)]
                    refine ⟨(m1 i hi).1, fun q hq => ?_⟩
                    have e1 : uW k r.2.1 r.2.2 σ 1 i q = σ 1 i q := if_neg e
                    have e2 : uW k r.2.1 r.2.2 σ 2 i q = σ 2 i q := if_neg e
                    have hq24 := (hB.1 i hi).1
                    have hoff := hv.2.2.2.1 (24 * i + q) (by omega)
                    rw [e1, e2, hoff.1, hoff.2, f4.1 119 (by decide) (by decide) (by decide) (by decide) (by decide), f4.1 120 (by decide) (by decide) (by decide) (by decide) (by decide)]
                    exact (m1 i hi).2 q hq
                · by_cases e : i = k
                  · subst e
                    have e3 : ∀ j, uW i r.2.1 r.2.2 σ 3 i j = if j = 1 then 9 else 0 := fun j => if_pos rfl
                    rw [e3, e3, e3, e3, e3, e3]
                    exact ⟨b3, b4, b5, b6, b7, b8⟩
                  · have e3 : ∀ j, uW k r.2.1 r.2.2 σ 3 i j = σ 3 i j := fun j => if_neg e
                    rw [e3, e3, e3, e3, e3, e3, b1 i (by omega), b1 (12 + i) (by omega), b1 (24 + i) (by omega), b1 (36 + i) (by omega), b1 (48 + i) (by omega), b1 (60 + i) (by omega), f15]
                    exact k0 i hi
                · rw [b2 72 (by decide), f15]
                  exact k1
                · rw [b2 73 (by decide), f15]
                  exact k2
                · rw [b2 74 (by decide), f15]
                  exact k3
                · rw [far 117 (by decide) (by decide) (by decide) (by decide) (by decide) (by decide) (by decide) (by decide) (by decide)]
                  exact m3 z
                · rw [f14]
                  exact f4.2.2
                · rw [f14, f4.2.1 58 (by unfold fkR; omega)]
                  exact m4.2
                · rw [far 140 (by decide) (by decide) (by decide) (by decide) (by decide) (by decide) (by decide) (by decide) (by decide)]
                  exact m6 j
              have L : ∀ i, i ≤ (r.2.1) → ∀ I2 : IM, ((∀ x, x ≠ 118 → x ≠ 119 → x ≠ 120 → I2 x = I4 x) ∧ I2 118 k = nI r.2.1 ∧ (∀ j, j ≠ k → I2 118 j = I4 118 j) ∧ (∀ j, (j < 24 * k ∨ 24 * k + r.2.1 ≤ j) → I2 119 j = I4 119 j ∧ I2 120 j = I4 120 j) ∧ ∀ q, q < i → I2 119 (24 * k + q) = nI (r.2.2 q / 16) ∧ I2 120 (24 * k + q) = nI (r.2.2 q % 16)) → E g mX12_witness 900 0 0 56 [.ref 114, .int (nI k), .int (nI m), .int (nI i)] [] n I2 J R Q := by
                refine loopU (r.2.1) (fun I2 hv => ?_) (fun i hi ih I2 hv => ?_)
                · refine E_iload_n dX12_witness_56 rfl ?_
                  refine E_aload_n dX12_witness_57 rfl ?_
                  refine E_getI dX12_witness_58 f_X12_252 rfl (Nat.lt_of_lt_of_le (by decide) hN) rfl ?_
                  refine E.top ((congrFun (hv.1 114 (by decide) (by decide) (by decide)) 34).trans n4) ?_
                  refine E_cN_ge (a := r.2.1) (b := r.2.1) (tgt := 108) dX12_witness_61 (by omega) (by omega) (by decide) (fun cw61 => ?_) (fun cw61 => absurd cw61 (by omega))
                  refine E_aload_n dX12_witness_108 rfl ?_
                  refine E_iload_n dX12_witness_109 rfl ?_
                  refine E_callV (As := [_]) (ci := 11) (kc' := 0) (ks' := 0) (kc := 0) (ks := 0) dX12_witness_110 ok_X12_becomesNew w_X12_283 i_X12_becomesNew s_X12_becomesNew rfl (by decide) rfl (Nat.lt_of_lt_of_le (by decide) hN) rfl rfl rfl (Nat.le_of_ble_eq_true rfl) (Nat.le_of_ble_eq_true rfl) (Nat.le_refl _) (m_becomesNew (k := k) hN hR hk (fun I6 g6 b1 b2 b3 b4 b5 b6 b7 b8 => ?_))
                  refine E_aload_n dX12_witness_113 rfl ?_
                  refine E_getI dX12_witness_114 f_X12_252 rfl (Nat.lt_of_lt_of_le (by decide) hN) rfl ?_
                  refine E.top ((congrFun ((g6 114 (by decide)).trans (hv.1 114 (by decide) (by decide) (by decide))) 34).trans n4) ?_
                  refine E_iret dX12_witness_117 rfl ?_
                  exact hfin I2 I6 hv g6 b1 b2 b3 b4 b5 b6 b7 b8
                · have hfi := a5 i hi
                  rw [if_pos rfl] at hfi
                  refine E_iload_n dX12_witness_56 rfl ?_
                  refine E_aload_n dX12_witness_57 rfl ?_
                  refine E_getI dX12_witness_58 f_X12_252 rfl (Nat.lt_of_lt_of_le (by decide) hN) rfl ?_
                  refine E.top ((congrFun (hv.1 114 (by decide) (by decide) (by decide)) 34).trans n4) ?_
                  refine E_cN_ge (a := i) (b := r.2.1) (tgt := 108) dX12_witness_61 (by omega) (by omega) (by decide) (fun cw61 => absurd cw61 (by omega)) (fun cw61 => ?_)
                  refine E_aload_n dX12_witness_64 rfl ?_
                  refine E_getR dX12_witness_65 f_X12_22 rfl (Nat.lt_of_lt_of_le (by decide) hN) rfl (hR _ _ _ rfl) ?_
                  refine E_iload_n dX12_witness_68 rfl ?_
                  refine E_iload_n dX12_witness_69 rfl ?_
                  refine E_callS (As := [_, _]) (kc' := 0) (ks' := 0) (kc := 0) (ks := 0) dX12_witness_70 ok_X12_at w_X12_280 st_X12_at rfl rfl rfl (Nat.le_of_ble_eq_true rfl) (Nat.le_of_ble_eq_true rfl) (Nat.le_refl _) (m_at ?_)
                  refine E_aload_n dX12_witness_73 rfl ?_
                  refine E_getR dX12_witness_74 f_X12_71 rfl (Nat.lt_of_lt_of_le (by decide) hN) rfl (hR _ _ _ rfl) ?_
                  refine E_iload_n dX12_witness_77 rfl ?_
                  refine E_ialdN dX12_witness_78 rfl (Nat.lt_of_lt_of_le (by decide) hN) (by omega) ?_
                  refine E.top ((congrFun (hv.1 135 (by decide) (by decide) (by decide)) i).trans (i4 i hi)) ?_
                  refine E_bp (nI 16) dX12_witness_79 (by decide) ?_
                  refine E_idiv dX12_witness_81 (by decide) ?_
                  refine E.top (pk_div (a := r.2.2 i) (d := 16) (by omega) (by decide) (by decide)) ?_
                  refine E_iastN dX12_witness_82 rfl (Nat.lt_of_lt_of_le (by decide) hN) (by omega) ?_
                  refine E_aload_n dX12_witness_83 rfl ?_
                  refine E_getR dX12_witness_84 f_X12_25 rfl (Nat.lt_of_lt_of_le (by decide) hN) rfl (hR _ _ _ rfl) ?_
                  refine E_iload_n dX12_witness_87 rfl ?_
                  refine E_iload_n dX12_witness_88 rfl ?_
                  refine E_callS (As := [_, _]) (kc' := 0) (ks' := 0) (kc := 0) (ks := 0) dX12_witness_89 ok_X12_at w_X12_280 st_X12_at rfl rfl rfl (Nat.le_of_ble_eq_true rfl) (Nat.le_of_ble_eq_true rfl) (Nat.le_refl _) (m_at ?_)
                  refine E_aload_n dX12_witness_92 rfl ?_
                  refine E_getR dX12_witness_93 f_X12_71 rfl (Nat.lt_of_lt_of_le (by decide) hN) rfl (hR _ _ _ rfl) ?_
                  refine E_iload_n dX12_witness_96 rfl ?_
                  refine E_ialdN dX12_witness_97 rfl (Nat.lt_of_lt_of_le (by decide) hN) (by omega) ?_
                  refine E.top ((congrFun ((up2_o _ 119 _ _ 135 (by decide)).trans (hv.1 135 (by decide) (by decide) (by decide))) i).trans (i4 i hi)) ?_
                  refine E_bp (nI 16) dX12_witness_98 (by decide) ?_
                  refine E_irem dX12_witness_100 (by decide) ?_
                  refine E.top (pk_rem (a := r.2.2 i) (d := 16) (by omega) (by decide) (by decide)) ?_
                  refine E_iastN dX12_witness_101 rfl (Nat.lt_of_lt_of_le (by decide) hN) (by omega) ?_
                  refine E_incN dX12_witness_102 rfl ?_
                  refine E_goto (tgt := 56) dX12_witness_105 (by decide) ?_
                  refine ih _ ⟨fun x h1 h2 h3 => (up2_o _ 120 _ _ x h3).trans ((up2_o _ 119 _ _ x h2).trans (hv.1 x h1 h2 h3)), (congrFun ((up2_o _ 120 _ _ 118 (by decide)).trans (up2_o _ 119 _ _ 118 (by decide))) k).trans hv.2.1, fun j hj => (congrFun ((up2_o _ 120 _ _ 118 (by decide)).trans (up2_o _ 119 _ _ 118 (by decide))) j).trans (hv.2.2.1 j hj), fun j hj => ?_, fun q hq => ?_⟩
                  · rw [up2_o _ 120 _ _ 119 (by decide), up2_k _ _ (show j ≠ 24 * k + i by omega), up2_k _ _ (show j ≠ 24 * k + i by omega), up2_o _ 119 _ _ 120 (by decide)]
                    exact hv.2.2.2.1 j hj
                  · rw [up2_o _ 120 _ _ 119 (by decide)]
                    rcases Nat.lt_succ_iff_lt_or_eq.mp hq with z | z
                    · rw [up2_k _ _ (show 24 * k + q ≠ 24 * k + i by omega), up2_k _ _ (show 24 * k + q ≠ 24 * k + i by omega), up2_o _ 119 _ _ 120 (by decide)]
                      exact hv.2.2.2.2 q z
                    · subst z
                      exact ⟨up2_s _ _ _ _, up2_s _ _ _ _⟩
              refine E_zN_ne (a := 1) (tgt := 44) dX12_witness_36 (by decide) (by decide) (fun cw36 => ?_) (fun cw36 => absurd cw36 (by omega))
              refine E_aload_n dX12_witness_44 rfl ?_
              refine E_getR dX12_witness_45 f_X12_19 rfl (Nat.lt_of_lt_of_le (by decide) hN) rfl (hR _ _ _ rfl) ?_
              refine E_iload_n dX12_witness_48 rfl ?_
              refine E_aload_n dX12_witness_49 rfl ?_
              refine E_getI dX12_witness_50 f_X12_252 rfl (Nat.lt_of_lt_of_le (by decide) hN) rfl ?_
              refine E.top (n4) ?_
              refine E_iastN dX12_witness_53 rfl (Nat.lt_of_lt_of_le (by decide) hN) (by omega) ?_
              refine E_ic (nI 0) dX12_witness_54 (by decide) ?_
              refine E_istore_n dX12_witness_55 (Nat.le_of_ble_eq_true rfl) ?_
              exact L 0 (Nat.zero_le _) _ ⟨fun x h1 _ _ => up2_o I4 118 _ _ x h1, up2_s _ _ _ _, fun j hj => up2_k _ _ hj, fun j hj => ⟨congrFun (up2_o I4 118 _ _ 119 (by decide)) j, congrFun (up2_o I4 118 _ _ 120 (by decide)) j⟩, fun q hq => absurd hq (Nat.not_lt_zero q)⟩
          · skip
            exact absurd rfl (z _ (by omega) (by omega))
        · skip
          exact absurd rfl (z _ (by omega) (by omega))
      · have hq := hNO (fun z => by obtain ⟨_, m2, q1, q2, q3, q4⟩ := z; have := (nI_eq (by omega) (by omega)).mp q4; omega)
        refine E_iload_n dX12_witness_0 rfl ?_
        refine E_ic (nI 0) dX12_witness_1 (by decide) ?_
        refine E_bp (nI 11) dX12_witness_2 (by decide) ?_
        refine E_callS (As := [_, _, _]) (kc' := 0) (ks' := 0) (kc := 0) (ks := 0) dX12_witness_4 ok_X12_in w_X12_124 st_X12_in rfl rfl rfl (Nat.le_of_ble_eq_true rfl) (Nat.le_of_ble_eq_true rfl) (Nat.le_refl _) (M_in (x := nI k) (by decide) (by decide) (fun _ _ _ _ => ?_) (fun z => ?_))
        · skip
          refine E_zN_eq (a := 1) (tgt := 28) dX12_witness_7 (by decide) (by decide) (fun cw7 => absurd cw7 (by omega)) (fun cw7 => ?_)
          refine E_iload_n dX12_witness_10 rfl ?_
          refine E_ic (nI 1) dX12_witness_11 (by decide) ?_
          refine E_bp (nI 80) dX12_witness_12 (by decide) ?_
          refine E_callS (As := [_, _, _]) (kc' := 0) (ks' := 0) (kc := 0) (ks := 0) dX12_witness_14 ok_X12_in w_X12_124 st_X12_in rfl rfl rfl (Nat.le_of_ble_eq_true rfl) (Nat.le_of_ble_eq_true rfl) (Nat.le_refl _) (M_in (x := nI m) (by decide) (by decide) (fun _ _ _ _ => ?_) (fun z => ?_))
          · skip
            refine E_zN_eq (a := 1) (tgt := 28) dX12_witness_17 (by decide) (by decide) (fun cw17 => absurd cw17 (by omega)) (fun cw17 => ?_)
            refine E_iload_n dX12_witness_20 rfl ?_
            refine E_aload_n dX12_witness_21 rfl ?_
            refine E_getI dX12_witness_22 f_X12_128 rfl (Nat.lt_of_lt_of_le (by decide) hN) rfl ?_
            refine E.top (hM.2.2.2.1.1) ?_
            refine E_cN_le (a := m) (b := σ 9 0 0) (tgt := 30) dX12_witness_25 (by omega) (by omega) (by decide) (fun cw25 => absurd cw25 (by omega)) (fun cw25 => ?_)
            refine E_ic (-1) dX12_witness_28 (by decide) ?_
            exact E_iret dX12_witness_29 rfl (hq)
          · skip
            exact absurd rfl (z _ (by omega) (by omega))
        · skip
          exact absurd rfl (z _ (by omega) (by omega))
    · have hq := hNO (fun z => by obtain ⟨_, m2, q1, q2, q3, q4⟩ := z; exact hw ⟨m2, q1, q2, q4⟩)
      refine E_iload_n dX12_witness_0 rfl ?_
      refine E_ic (nI 0) dX12_witness_1 (by decide) ?_
      refine E_bp (nI 11) dX12_witness_2 (by decide) ?_
      refine E_callS (As := [_, _, _]) (kc' := 0) (ks' := 0) (kc := 0) (ks := 0) dX12_witness_4 ok_X12_in w_X12_124 st_X12_in rfl rfl rfl (Nat.le_of_ble_eq_true rfl) (Nat.le_of_ble_eq_true rfl) (Nat.le_refl _) (M_in (x := nI k) (by decide) (by decide) (fun _ _ _ _ => ?_) (fun z => ?_))
      · skip
        refine E_zN_eq (a := 1) (tgt := 28) dX12_witness_7 (by decide) (by decide) (fun cw7 => absurd cw7 (by omega)) (fun cw7 => ?_)
        refine E_iload_n dX12_witness_10 rfl ?_
        refine E_ic (nI 1) dX12_witness_11 (by decide) ?_
        refine E_bp (nI 80) dX12_witness_12 (by decide) ?_
        refine E_callS (As := [_, _, _]) (kc' := 0) (ks' := 0) (kc := 0) (ks := 0) dX12_witness_14 ok_X12_in w_X12_124 st_X12_in rfl rfl rfl (Nat.le_of_ble_eq_true rfl) (Nat.le_of_ble_eq_true rfl) (Nat.le_refl _) (M_in (by decide) (by decide) (fun m q1 q2 q3 => ?_) (fun z => ?_))
        · skip
          exact absurd ⟨m, q1, q2, q3⟩ hw
        · skip
          refine E_zN_eq (a := 0) (tgt := 28) dX12_witness_17 (by decide) (by decide) (fun cw17 => ?_) (fun cw17 => absurd cw17 (by omega))
          refine E_ic (-1) dX12_witness_28 (by decide) ?_
          exact E_iret dX12_witness_29 rfl (hq)
      · skip
        exact absurd rfl (z _ (by omega) (by omega))
  · have hq := hNO (fun z => hx z.1)
    refine E_iload_n dX12_witness_0 rfl ?_
    refine E_ic (nI 0) dX12_witness_1 (by decide) ?_
    refine E_bp (nI 11) dX12_witness_2 (by decide) ?_
    refine E_callS (As := [_, _, _]) (kc' := 0) (ks' := 0) (kc := 0) (ks := 0) dX12_witness_4 ok_X12_in w_X12_124 st_X12_in rfl rfl rfl (Nat.le_of_ble_eq_true rfl) (Nat.le_of_ble_eq_true rfl) (Nat.le_refl _) (M_in (by decide) (by decide) (fun m q1 q2 q3 => ?_) (fun z => ?_))
    · skip
      exact absurd ⟨m, q2, q3⟩ hx
    · skip
      refine E_zN_eq (a := 0) (tgt := 28) dX12_witness_7 (by decide) (by decide) (fun cw7 => ?_) (fun cw7 => absurd cw7 (by omega))
      refine E_ic (-1) dX12_witness_28 (by decide) ?_
      exact E_iret dX12_witness_29 rfl (hq)
end PWitM
