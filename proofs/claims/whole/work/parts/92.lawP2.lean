/-! ===== law: the reference's call, and the pair ===== -/
section PLawZ
variable {g : GL} {n : Nat} {I : IM} {J : JM} {R : RM} {Q : PQ} {σ : ST}
set_option maxRecDepth 100000 in
set_option maxHeartbeats 2000000 in
theorem m_lawA {m : Nat} (hB : BND σ) (hM : MR σ I) (hN : 152 ≤ n) (hR : RS R) (h1 : 1 ≤ m) (h2 : m ≤ 240) (h3 : m ≤ σ 9 0 0) (hQ0 : ∀ z, laL (ccS (tpS σ) m) = .inl z → ∀ I' : IM, MR (u0 σ) I' → (∀ a, a < 114 → I' a = I a) → I' 114 16 = I 114 16 → (∀ a, 128 ≤ a → a ≤ 132 → I' a = I a) → Q (some (.int z)) n I' J R) (hQ1 : ∀ w, laL (ccS (tpS σ) m) = .inr w → ∀ I' : IM, MR (u0 σ) I' → (∀ a, a < 114 → I' a = I a) → LMq w I' → Q (some (.int (nI w.1))) n I' J R) : E g mX12_law 900 0 0 0 (ent 4 [.ref 114, .int (nI m)]) [] n I J R Q := by
  have b9 : σ 9 0 0 ≤ 260 := hB.2.2.2.2.2.1
  have hc := tp_okc hB h3
  obtain ⟨IB, hIB⟩ : ∃ IB : IM, (up2 (up2 (up2 (up2 I 114 8 (nI 0)) 114 9 (nI m)) 114 13 (nI 0)) 114 15 (nI 0)) = IB := ⟨_, rfl⟩
  have gB : ∀ y, y ≠ 114 → IB y = I y := fun y hy => by rw [← hIB, up2_o _ 114 _ _ y hy, up2_o _ 114 _ _ y hy, up2_o _ 114 _ _ y hy, up2_o _ 114 _ _ y hy]
  have gF : ∀ j, j ≠ 8 → j ≠ 9 → j ≠ 13 → j ≠ 15 → IB 114 j = I 114 j := fun j h1 h2 h3 h4 => by rw [← hIB, up2_k _ _ h4, up2_k _ _ h3, up2_k _ _ h2, up2_k _ _ h1]
  have hT : LTm IB J R n Q (laL (ccS (tpS σ) m)) := by
    cases hla : laL (ccS (tpS σ) m) with
    | inl z =>
      intro I' e1 e2 e3 e7
      have f1 : ∀ y, y ≠ 114 → (y < 122 ∨ 132 < y) → I' y = I y := fun y h1 h2 => (e1 y h1 h2).trans (gB y h1)
      exact hQ0 z hla I' ⟨fun i hi => by rw [f1 118 (by decide) (by decide), f1 119 (by decide) (by decide), f1 120 (by decide) (by decide)]; exact hM.1 i hi, by rw [f1 115 (by decide) (by decide)]; exact hM.2.1, fun z => by rw [f1 117 (by decide) (by decide)]; exact hM.2.2.1 z, ⟨e7, ((e3 58 (by omega)).trans (gF 58 (by decide) (by decide) (by decide) (by decide))).trans hM.2.2.2.1.2⟩, fun j hj => absurd hj (Nat.not_lt_zero j), fun j => by rw [f1 140 (by decide) (by decide)]; exact hM.2.2.2.2.2 j⟩ (fun a ha => f1 a (by omega) (by omega)) ((e3 16 (by omega)).trans (gF 16 (by decide) (by decide) (by decide) (by decide))) (fun a a1 a2 => (e2 a a1 a2).trans (gB a (by omega)))
    | inr w =>
      intro I' e1 e3 e7 q7
      have f1 : ∀ y, y ≠ 114 → (y < 122 ∨ 132 < y) → I' y = I y := fun y h1 h2 => (e1 y h1 h2).trans (gB y h1)
      exact hQ1 w hla I' ⟨fun i hi => by rw [f1 118 (by decide) (by decide), f1 119 (by decide) (by decide), f1 120 (by decide) (by decide)]; exact hM.1 i hi, by rw [f1 115 (by decide) (by decide)]; exact hM.2.1, fun z => by rw [f1 117 (by decide) (by decide)]; exact hM.2.2.1 z, ⟨e7, ((e3 58 (by omega)).trans (gF 58 (by decide) (by decide) (by decide) (by decide))).trans hM.2.2.2.1.2⟩, fun j hj => absurd hj (Nat.not_lt_zero j), fun j => by rw [f1 140 (by decide) (by decide)]; exact hM.2.2.2.2.2 j⟩ (fun a ha => f1 a (by omega) (by omega)) q7
  have hCB : CLm (tpS σ) m IB := ⟨by rw [← hIB]; rfl, fun j hj => by rw [gB 121 (by decide)]; exact hM.2.2.2.2.1 j (by omega)⟩
  have LL := m_lawL (g := g) (d := 900) (I := IB) (J := J) (Q := Q) (by decide) hN hR hc h2 hCB
  refine E_iload_n dX12_law_0 rfl ?_
  refine E_ic (nI 1) dX12_law_1 (by decide) ?_
  refine E_sp (nI 240) dX12_law_2 (by decide) ?_
  refine E_callS (As := [_, _, _]) (kc' := 0) (ks' := 0) (kc := 0) (ks := 0) dX12_law_5 ok_X12_in w_X12_124 st_X12_in rfl rfl rfl (Nat.le_of_ble_eq_true rfl) (Nat.le_of_ble_eq_true rfl) (Nat.le_refl _) (M_in (x := nI m) (by decide) (by decide) (fun _ _ _ _ => ?_) (fun z => ?_))
  · skip
    refine E_zN_eq (a := 1) (tgt := 19) dX12_law_8 (by decide) (by decide) (fun cw8 => absurd cw8 (by omega)) (fun cw8 => ?_)
    refine E_iload_n dX12_law_11 rfl ?_
    refine E_aload_n dX12_law_12 rfl ?_
    refine E_getI dX12_law_13 f_X12_128 rfl (Nat.lt_of_lt_of_le (by decide) hN) rfl ?_
    refine E.top (hM.2.2.2.1.1) ?_
    refine E_cN_le (a := m) (b := σ 9 0 0) (tgt := 21) dX12_law_16 (by omega) (by omega) (by decide) (fun cw16 => ?_) (fun cw16 => absurd cw16 (by omega))
    refine E_aload_n dX12_law_21 rfl ?_
    refine E_iload_n dX12_law_22 rfl ?_
    refine E_callV (As := [_]) (ci := 11) (kc' := 0) (ks' := 0) (kc := 0) (ks := 0) dX12_law_23 ok_X12_beginsText w_X12_222 i_X12_beginsText s_X12_beginsText rfl (by decide) rfl (Nat.lt_of_lt_of_le (by decide) hN) rfl rfl rfl (Nat.le_of_ble_eq_true rfl) (Nat.le_of_ble_eq_true rfl) (by omega) (m_beginsText (d := 0) hN ?_)
    refine E.mem (show (up2 (up2 (up2 (up2 I 114 8 (nI 0)) 114 9 (nI m)) 114 13 (nI 0)) 114 15 (nI 0)) = IB from hIB) ?_
    refine E_aload_n dX12_law_26 rfl ?_
    refine E_callV (As := []) (ci := 11) (kc' := 0) (ks' := 0) (kc := 0) (ks := 0) dX12_law_27 ok_X12_readsRule w_X12_225 i_X12_readsRule s_X12_readsRule rfl (by decide) rfl (Nat.lt_of_lt_of_le (by decide) hN) rfl rfl rfl (Nat.le_of_ble_eq_true rfl) (Nat.le_of_ble_eq_true rfl) (by omega) (m_readsRule (d := 7) (p := 0) (w := lw0) (by decide) hN hR hc h2 hCB (Nat.zero_le _) lw0_ok ⟨by rw [← hIB]; rfl, by rw [← hIB]; rfl, fun i hi => absurd hi (Nat.not_lt_zero i)⟩ ⟨by rw [← hIB]; rfl, fun r hr => absurd hr (Nat.not_lt_zero r)⟩ (fun x hx I4 f4 e4 => ?_) (fun r hr I4 f4 p4 d4 => ?_))
    · skip
      refine E_istore_n dX12_law_30 (Nat.le_of_ble_eq_true rfl) ?_
      exact LL.1 x I4 f4 e4 (hT.rw (lw_l hx))
    · skip
      refine E_istore_n dX12_law_30 (Nat.le_of_ble_eq_true rfl) ?_
      obtain ⟨g1, g2, g3, g4⟩ := ru_ok hc h2 lw0_ok hr
      have en := ru_n hr
      exact LL.2 16 r.1 r.2 I4 (by rw [en]) g2 g1 f4 p4 d4 (hT.rw (lw_t hr))
  · skip
    exact absurd rfl (z _ (by omega) (by omega))
set_option maxRecDepth 100000 in
set_option maxHeartbeats 2000000 in
theorem m_lawN {x : Int32} (hB : BND σ) (hM : MR σ I) (hN : 152 ≤ n) (hR : RS R) (hno : ¬ tp σ x 1 240) (hQ : Q (some (.int (-1))) n I J R) : E g mX12_law 900 0 0 0 (ent 4 [.ref 114, .int x]) [] n I J R Q := by
  have b9 : σ 9 0 0 ≤ 260 := hB.2.2.2.2.2.1
  by_cases hw : ∃ m, 1 ≤ m ∧ m ≤ 240 ∧ x = nI m
  · obtain ⟨m, m1, m2, rfl⟩ := hw
    have m3 : ¬ m ≤ σ 9 0 0 := fun z => hno (tp_of m1 m2 z)
    refine E_iload_n dX12_law_0 rfl ?_
    refine E_ic (nI 1) dX12_law_1 (by decide) ?_
    refine E_sp (nI 240) dX12_law_2 (by decide) ?_
    refine E_callS (As := [_, _, _]) (kc' := 0) (ks' := 0) (kc := 0) (ks := 0) dX12_law_5 ok_X12_in w_X12_124 st_X12_in rfl rfl rfl (Nat.le_of_ble_eq_true rfl) (Nat.le_of_ble_eq_true rfl) (Nat.le_refl _) (M_in (x := nI m) (by decide) (by decide) (fun _ _ _ _ => ?_) (fun z => ?_))
    · skip
      refine E_zN_eq (a := 1) (tgt := 19) dX12_law_8 (by decide) (by decide) (fun cw8 => absurd cw8 (by omega)) (fun cw8 => ?_)
      refine E_iload_n dX12_law_11 rfl ?_
      refine E_aload_n dX12_law_12 rfl ?_
      refine E_getI dX12_law_13 f_X12_128 rfl (Nat.lt_of_lt_of_le (by decide) hN) rfl ?_
      refine E.top (hM.2.2.2.1.1) ?_
      refine E_cN_le (a := m) (b := σ 9 0 0) (tgt := 21) dX12_law_16 (by omega) (by omega) (by decide) (fun cw16 => absurd cw16 (by omega)) (fun cw16 => ?_)
      refine E_ic (-1) dX12_law_19 (by decide) ?_
      exact E_iret dX12_law_20 rfl (hQ)
    · skip
      exact absurd rfl (z _ (by omega) (by omega))
  · skip
    refine E_iload_n dX12_law_0 rfl ?_
    refine E_ic (nI 1) dX12_law_1 (by decide) ?_
    refine E_sp (nI 240) dX12_law_2 (by decide) ?_
    refine E_callS (As := [_, _, _]) (kc' := 0) (ks' := 0) (kc := 0) (ks := 0) dX12_law_5 ok_X12_in w_X12_124 st_X12_in rfl rfl rfl (Nat.le_of_ble_eq_true rfl) (Nat.le_of_ble_eq_true rfl) (Nat.le_refl _) (M_in (by decide) (by decide) (fun m q1 q2 q3 => ?_) (fun z => ?_))
    · skip
      exact absurd ⟨m, q1, q2, q3⟩ hw
    · skip
      refine E_zN_eq (a := 0) (tgt := 19) dX12_law_8 (by decide) (by decide) (fun cw8 => ?_) (fun cw8 => absurd cw8 (by omega))
      refine E_ic (-1) dX12_law_19 (by decide) ?_
      exact E_iret dX12_law_20 rfl (hQ)
set_option maxRecDepth 100000 in
set_option maxHeartbeats 2000000 in
theorem pair_law (x : Int32) (g : GL) (n : Nat) (I : IM) (J : JM) (R : RM) (h : INV LRq n I J R) : ∃ (r : Value) (P : Nat → IM → JM → RM → Prop) (kx sx : Nat), (∃ z : Int32, r = .int z) ∧ kx ≤ 153 - n ∧ sx ≤ 49500 * (153 - n) ∧
  (∀ Q : PQ, (∀ n' I' J' R', 152 ≤ n' → n' ≤ 153 → kx + (153 - n') ≤ 153 - n → sx + 49500 * (153 - n') ≤ 49500 * (153 - n) → P n' I' J' R' → Q (some r) n' I' J' R') → E g mX11_law 900 kx sx 0 (ent mX11_law.2.2.1 (.ref 0 :: [.int x])) [] n I J R Q) ∧
  ∀ n' I' J' R', P n' I' J' R' → ∀ Q : PQ, (∀ I2 J2 R2, INV LRq n' I2 J2 R2 → Q (some r) n' I2 J2 R2) → E g mX12_law 900 0 0 0 (ent mX12_law.2.2.1 (.ref 114 :: [.int x])) [] n' I' J' R' Q := by
  obtain ⟨σ, hB, hX, hM, hl⟩ := id h
  have hn := hX.2.2.2.1.n
  have hR := hX.2.2.2.1.1
  by_cases hg : tp σ x 1 240
  · obtain ⟨m, m1, m2, m3, rfl⟩ := hg
    have u0o : ∀ y, y ≠ 0 → up2 I 0 2 (nI 0) y = I y := fun y hy => up2_o I 0 2 _ y hy
    cases hla : laL (ccS (tpS σ) m) with
    | inl z =>
      refine ⟨.int z, fun n' I' J' R' => n' = n ∧ XN n R' ∧ (∀ y, (y < 11 ∨ 17 < y) → I' y = up2 I 0 2 (nI 0) y), 0, 0, ⟨_, rfl⟩, Nat.zero_le _, Nat.zero_le _, fun Q hQ => ?_, ?_⟩
      · refine x_lawA hB hX m1 m2 m3 (fun z2 hz I' R' xn f => ?_) (fun w hw => ?_)
        · rw [hla] at hz
          rw [← Sum.inl.inj hz]
          exact hQ n I' J R' hn.1 hn.2 (by omega) (by omega) ⟨rfl, xn, f⟩
        · rw [hla] at hw
          cases hw
      · rintro n' I' J' R' ⟨rfl, xn, f⟩ Q hQ
        have f2 : ∀ y, y ≠ 0 → (y < 11 ∨ 17 < y) → I' y = I y := fun y h1 h2 => (f y h2).trans (u0o y h1)
        have hM2 : MR σ I' := hM.off (fun a a1 a2 => f2 a (by omega) (by omega))
        have hX2 : XR (u0 σ) n' I' R' := XRn (u0_X hX) xn (fun a a1 a2 => f a (by omega)) (f 0 (by decide)) (f 2 (by decide))
        refine m_lawA hB hM2 hn.1 xn.1 m1 m2 m3 (fun z2 hz I4 m4 a4 b4 d4 => ?_) (fun w hw => ?_)
        · rw [hla] at hz
          rw [← Sum.inl.inj hz]
          exact hQ I4 J' R' ⟨u0 σ, u0_B hB, hX2.off a4, m4, LRq_ok I I4 (fun a a1 a2 => (a4 a (by omega)).trans (f2 a (by omega) (by omega))) (b4.trans (congrFun (f2 114 (by decide) (by decide)) 16)) (fun a a1 a2 => (d4 a a1 a2).trans (f2 a (by omega) (by omega))) hl⟩
        · rw [hla] at hw
          cases hw
    | inr w =>
      refine ⟨.int (nI w.1), fun n' I' J' R' => n' = n ∧ XN n R' ∧ (∀ y, (y < 3 ∨ (8 < y ∧ y < 11) ∨ 17 < y) → I' y = up2 I 0 2 (nI 0) y) ∧ LXq w I', 0, 0, ⟨_, rfl⟩, Nat.zero_le _, Nat.zero_le _, fun Q hQ => ?_, ?_⟩
      · refine x_lawA hB hX m1 m2 m3 (fun z2 hz => ?_) (fun w2 hw I' R' xn f lx => ?_)
        · rw [hla] at hz
          cases hz
        · rw [hla] at hw
          rw [← Sum.inr.inj hw] at lx ⊢
          exact hQ n I' J R' hn.1 hn.2 (by omega) (by omega) ⟨rfl, xn, f, lx⟩
      · rintro n' I' J' R' ⟨rfl, xn, f, lx⟩ Q hQ
        have f2 : ∀ y, y ≠ 0 → (y < 3 ∨ (8 < y ∧ y < 11) ∨ 17 < y) → I' y = I y := fun y h1 h2 => (f y h2).trans (u0o y h1)
        have hM2 : MR σ I' := hM.off (fun a a1 a2 => f2 a (by omega) (by omega))
        have hX2 : XR (u0 σ) n' I' R' := XRn (u0_X hX) xn (fun a a1 a2 => f a (by omega)) (f 0 (by decide)) (f 2 (by decide))
        refine m_lawA hB hM2 hn.1 xn.1 m1 m2 m3 (fun z2 hz => ?_) (fun w2 hw I4 m4 a4 q4 => ?_)
        · rw [hla] at hz
          cases hz
        · rw [hla] at hw
          rw [← Sum.inr.inj hw] at q4 ⊢
          exact hQ I4 J' R' ⟨u0 σ, u0_B hB, hX2.off a4, m4, ⟨w, la_ok (tp_okc hB m3) m2 hla, lx.keep (fun a a1 a2 => a4 a (by omega)), q4⟩⟩
  · refine ⟨.int (-1), fun n' I' J' R' => n' = n ∧ I' = I ∧ R' = R, 0, 0, ⟨_, rfl⟩, Nat.zero_le _, Nat.zero_le _, fun Q hQ => ?_, ?_⟩
    · exact x_lawN hB hX hg (hQ n I J R hn.1 hn.2 (by omega) (by omega) ⟨rfl, rfl, rfl⟩)
    · rintro n' I' J' R' ⟨rfl, rfl, rfl⟩ Q hQ
      exact m_lawN hB hM hn.1 hR hg (hQ I' J' R' h)
end PLawZ
