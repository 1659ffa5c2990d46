/-! ===== law, the class ===== -/
section PLawX6
variable {g : GL} {n : Nat} {I : IM} {J : JM} {R : RM} {Q : PQ} {σ : ST}
set_option maxRecDepth 100000 in
set_option maxHeartbeats 2000000 in
theorem x_lawA {m : Nat} (hB : BND σ) (hX : XR σ n I R) (h1 : 1 ≤ m) (h2 : m ≤ 240) (h3 : m ≤ σ 9 0 0) (hQ0 : ∀ z, laL (ccS (tpS σ) m) = .inl z → ∀ (I' : IM) (R' : RM), XN n R' → (∀ x, (x < 11 ∨ 17 < x) → I' x = (up2 I 0 2 (nI 0)) x) → Q (some (.int z)) n I' J R') (hQ1 : ∀ w, laL (ccS (tpS σ) m) = .inr w → ∀ (I' : IM) (R' : RM), XN n R' → (∀ x, (x < 3 ∨ (8 < x ∧ x < 11) ∨ 17 < x) → I' x = (up2 I 0 2 (nI 0)) x) → LXq w I' → Q (some (.int (nI w.1))) n I' J R') : E g mX11_law 900 0 0 0 (ent 3 [.ref 0, .int (nI m)]) [] n I J R Q := by
  have hN := hX.2.2.2.1.n.1
  have hR := hX.2.2.2.1.1
  have b9 : σ 9 0 0 ≤ 260 := hB.2.2.2.2.2.1
  have hc := tp_okc hB h3
  have hXN : XN n (up2 R 11 1 (some 2)) := ⟨RS.up hR rfl, hX.2.2.2.1.2.elim (fun z => Or.inl z) (fun z => Or.inr z)⟩
  have fb : ∀ (I4 : IM), FRx (up2 (up2 (up2 (up2 (up2 (up2 I 0 2 (nI 0)) 11 2 (nI m)) 11 3 (nI 0)) 11 4 (nI 0)) 11 5 (nI 0)) 12 7 (nI 0)) I4 → ∀ x, (x < 11 ∨ 17 < x) → I4 x = (up2 I 0 2 (nI 0)) x := fun I4 f4 x hx => (f4.1 x hx).trans (by rw [up2_o _ 12 _ _ x (by omega), up2_o _ 11 _ _ x (by omega), up2_o _ 11 _ _ x (by omega), up2_o _ 11 _ _ x (by omega), up2_o _ 11 _ _ x (by omega)])
  refine E_aload_n dX11_law_0 rfl ?_
  refine E_iload_n dX11_law_1 rfl ?_
  refine E_ic (nI 1) dX11_law_2 (by decide) ?_
  refine E_sp (nI 240) dX11_law_3 (by decide) ?_
  refine E_callV (As := [_, _, _]) (ci := 10) (kc' := 0) (ks' := 0) (kc := 0) (ks := 0) dX11_law_6 ok_X11_tapeHas w_X11_113 i_X11_tapeHas s_X11_tapeHas rfl (by decide) rfl (Nat.lt_of_lt_of_le (by decide) hN) rfl rfl rfl (Nat.le_of_ble_eq_true rfl) (Nat.le_of_ble_eq_true rfl) (Nat.le_refl _) (X_tapeHas (d := 899) (by decide) (by decide) hB hX (fun _ _ _ _ _ => ?_) (fun z => ?_))
  · skip
    refine E_zN_ne (a := 1) (tgt := 14) dX11_law_9 (by decide) (by decide) (fun cw9 => ?_) (fun cw9 => absurd cw9 (by omega))
    refine E_aload_n dX11_law_14 rfl ?_
    refine E_ic (nI 0) dX11_law_15 (by decide) ?_
    refine E_putI dX11_law_16 f_X11_19 rfl (Nat.lt_of_lt_of_le (by decide) hN) rfl ?_
    refine E_aload_n dX11_law_19 rfl ?_
    refine E_getR dX11_law_20 f_X11_33 rfl (Nat.lt_of_lt_of_le (by decide) hN) rfl (hR _ _ _ rfl) ?_
    refine E_aload_n dX11_law_23 rfl ?_
    refine E_getR dX11_law_24 f_X11_15 rfl (Nat.lt_of_lt_of_le (by decide) hN) rfl (hR _ _ _ rfl) ?_
    refine E_iload_n dX11_law_27 rfl ?_
    refine E_callV (As := [_, _]) (ci := 4) (kc' := 0) (ks' := 0) (kc := 0) (ks := 0) dX11_law_28 ok_X4_read w_X11_117 i_X4_read s_X4_read rfl (by decide) rfl (Nat.lt_of_lt_of_le (by decide) hN) rfl rfl rfl (Nat.le_of_ble_eq_true rfl) (Nat.le_of_ble_eq_true rfl) (Nat.le_refl _) (x_readA (d := 899) (t := tpS σ) (c := (ccS (tpS σ) m)) (L := m) (by decide) hN hR hc (by omega) (fun j hj => (congrFun (up2_o I 0 2 _ 2 (by decide)) j).trans (hX.2.2.1 j (by omega))) ?_)
    cases hla : laL (ccS (tpS σ) m) with
    | inl z =>
      intro I4 f4
      refine E_istore_n dX11_law_31 (Nat.le_of_ble_eq_true rfl) ?_
      refine E_iload_n dX11_law_32 rfl ?_
      refine E_if_lt (tgt := 50) dX11_law_33 (by decide) (fun cw33 => ?_) (fun cw33 => by first | exact absurd cw33 (la_neg hc (by omega) hla) | exact absurd (la_neg hc (by omega) hla) cw33)
      refine E_iload_n dX11_law_50 rfl ?_
      exact E_iret dX11_law_51 rfl (hQ0 z hla I4 _ hXN (fb I4 f4))
    | inr w =>
      obtain ⟨q1, q2, q3, q4⟩ := la_ok hc (by omega) hla
      have q2 : wS w ≤ 240 := q2
      intro I4 f4 d4 k4
      refine E_istore_n dX11_law_31 (Nat.le_of_ble_eq_true rfl) ?_
      refine E_iload_n dX11_law_32 rfl ?_
      refine E_zN_lt (a := w.1) (tgt := 50) dX11_law_33 (by omega) (by decide) (fun cw33 => cw33.elim) (fun cw33 => ?_)
      refine E_aload_n dX11_law_36 rfl ?_
      refine E_getR dX11_law_37 f_X11_26 rfl (Nat.lt_of_lt_of_le (by decide) hN) rfl (hXN.1 _ _ _ rfl) ?_
      refine E_aload_n dX11_law_40 rfl ?_
      refine E_getR dX11_law_41 f_X11_33 rfl (Nat.lt_of_lt_of_le (by decide) hN) rfl (hXN.1 _ _ _ rfl) ?_
      refine E_getR dX11_law_44 f_X11_121 rfl (Nat.lt_of_lt_of_le (by decide) hN) rfl (hXN.1 _ _ _ rfl) ?_
      refine E_callV (As := [_]) (ci := 3) (kc' := 0) (ks' := 0) (kc := 0) (ks := 0) dX11_law_47 ok_X3_take w_X11_124 i_X3_take s_X3_take rfl (by decide) rfl (Nat.lt_of_lt_of_le (by decide) hN) rfl rfl rfl (Nat.le_of_ble_eq_true rfl) (Nat.le_of_ble_eq_true rfl) (Nat.le_refl _) (x_take (d := 898) hN hXN.1 (fun I5 f5 a5 b5 d5 => ?_))
      have b5x : ∀ r, r < w.1 → I5 5 r = nI (w.2.1 r) ∧ I5 6 r = nI (w.2.2.1 r) ∧ I5 7 r = nI (w.2.2.2.1 r) ∧ I5 8 r = nI (w.2.2.2.2.1 r) := fun r hr => by
        obtain ⟨e1, e2, e3, e4⟩ := d5 r (by omega)
        rw [e1, e2, e3, e4]
        exact d4.2 r hr
      refine E_iload_n dX11_law_50 rfl ?_
      exact E_iret dX11_law_51 rfl (hQ1 w hla I5 _ hXN (fun x hx => (f5 x (by omega)).trans (fb I4 f4 x (by omega))) ⟨a5.trans d4.1, fun r hr => by obtain ⟨e1, e2, e3, e4⟩ := b5x r hr; exact ⟨e1, e2, e3, e4⟩, fun i hi => (b5 i (by omega)).trans (k4 i hi)⟩)
  · skip
    exact absurd (tp_of h1 h2 h3) z
set_option maxRecDepth 100000 in
set_option maxHeartbeats 2000000 in
theorem x_lawN {x : Int32} (hB : BND σ) (hX : XR σ n I R) (hno : ¬ tp σ x 1 240) (hQ : Q (some (.int (-1))) n I J R) : E g mX11_law 900 0 0 0 (ent 3 [.ref 0, .int x]) [] n I J R Q := by
  have hN := hX.2.2.2.1.n.1
  have hR := hX.2.2.2.1.1
  refine E_aload_n dX11_law_0 rfl ?_
  refine E_iload_n dX11_law_1 rfl ?_
  refine E_ic (nI 1) dX11_law_2 (by decide) ?_
  refine E_sp (nI 240) dX11_law_3 (by decide) ?_
  refine E_callV (As := [_, _, _]) (ci := 10) (kc' := 0) (ks' := 0) (kc := 0) (ks := 0) dX11_law_6 ok_X11_tapeHas w_X11_113 i_X11_tapeHas s_X11_tapeHas rfl (by decide) rfl (Nat.lt_of_lt_of_le (by decide) hN) rfl rfl rfl (Nat.le_of_ble_eq_true rfl) (Nat.le_of_ble_eq_true rfl) (Nat.le_refl _) (X_tapeHas (d := 899) (by decide) (by decide) hB hX (fun m h1 h2 h3 e => ?_) (fun z => ?_))
  · skip
    subst e
    exact absurd (tp_of h1 h2 h3) hno
  · skip
    refine E_zN_ne (a := 0) (tgt := 14) dX11_law_9 (by decide) (by decide) (fun cw9 => absurd cw9 (by omega)) (fun cw9 => ?_)
    refine E_ic (-1) dX11_law_12 (by decide) ?_
    exact E_iret dX11_law_13 rfl (hQ)
end PLawX6
