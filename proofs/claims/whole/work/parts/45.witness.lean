/-! ===== witness ===== -/
/-- as SX, but references may be changed -/
def SXR (Mx : MD) (As : List Value) (sp : ST → Value) (up : ST → ST) : Prop := ∀ (g : GL) (n : Nat) (I : IM) (J : JM) (R : RM) (σ : ST) (Q : PQ), BND σ → XR σ n I R → (∀ (I' : IM) (J' : JM) (R' : RM), XR (up σ) n I' R' → (∀ a, 3 ≤ a → a ≤ 8 → I' a = I a) → (∀ a, 114 ≤ a → a < 152 → I' a = I a) → Q (some (sp σ)) n I' J' R') → E g Mx 900 0 0 0 (ent Mx.2.2.1 (.ref 0 :: As)) [] n I J R Q
theorem pair_ofR {LR : IM → Prop} (hLR : LRok LR) {Mx Mm : MD} {As : List Value} {vl : Value → Prop} (sp : ST → Value) (up : ST → ST) (hv : ∀ σ, vl (sp σ)) (hx : SXR Mx As sp up) (hm : SM Mm As sp up) (hb : ∀ σ, BND σ → BND (up σ)) (g : GL) (n : Nat) (I : IM) (J : JM) (R : RM) (h : INV LR n I J R) : ∃ (r : Value) (P : Nat → IM → JM → RM → Prop) (kx sx : Nat), vl r ∧ kx ≤ 153 - n ∧ sx ≤ 49500 * (153 - n) ∧
  (∀ Q : PQ, (∀ n' I' J' R', 152 ≤ n' → n' ≤ 153 → kx + (153 - n') ≤ 153 - n → sx + 49500 * (153 - n') ≤ 49500 * (153 - n) → P n' I' J' R' → Q (some r) n' I' J' R') → E g Mx 900 kx sx 0 (ent Mx.2.2.1 (.ref 0 :: As)) [] n I J R Q) ∧
  ∀ n' I' J' R', P n' I' J' R' → ∀ Q : PQ, (∀ I2 J2 R2, INV LR n' I2 J2 R2 → Q (some r) n' I2 J2 R2) → E g Mm 900 0 0 0 (ent Mm.2.2.1 (.ref 114 :: As)) [] n' I' J' R' Q := by
  obtain ⟨σ, hB, hX, hM, hl⟩ := h
  have hn := hX.2.2.2.1.n
  refine ⟨sp σ, fun n' I' _ R' => n' = n ∧ XR (up σ) n I' R' ∧ (∀ a, 3 ≤ a → a ≤ 8 → I' a = I a) ∧ (∀ a, 114 ≤ a → a < 152 → I' a = I a), 0, 0, hv σ, Nat.zero_le _, Nat.zero_le _, fun Q hQ => ?_, ?_⟩
  · exact hx g n I J R σ Q hB hX (fun I' J' R' h1 h2 h3 => hQ n I' J' R' hn.1 hn.2 (by omega) (by omega) ⟨rfl, h1, h2, h3⟩)
  · rintro n' I' J' R' ⟨rfl, h1, h2, h3⟩ Q hQ
    refine hm g n' I' J' R' σ Q hB (hM.off h3) hn.1 h1.2.2.2.1.1 (fun I2 J2 m1 m2 m3 m4 => ?_)
    exact hQ I2 J2 R' ⟨up σ, hb σ hB, h1.off m2, m1, hLR I I2 (fun a a1 a2 => (m2 a (by omega)).trans (h2 a a1 a2)) (by rw [m3, h3 114 (by decide) (by decide)]) (fun a a1 a2 => (m4 a a1 a2).trans (h3 a (by omega) (by omega))) hl⟩
/-- k is told anew -/
def uW (k s : Nat) (f : FN) (σ : ST) : ST := ups (ups (ups (ups (u0 σ) 0 (fun i j => if i = k then s else σ 0 i j)) 1 (fun i j => if i = k then f j / 16 else σ 1 i j)) 2 (fun i j => if i = k then f j % 16 else σ 2 i j)) 3 (fun i j => if i = k then (if j = 1 then 9 else 0) else σ 3 i j)
theorem uW_B {k s : Nat} {f : FN} {σ : ST} (h : BND σ) (hs : 1 ≤ s) (hs2 : s ≤ 24) (hf : ∀ i, i < s → f i < 1600) : BND (uW k s f σ) := by
  obtain ⟨h1, h2, h3, h4, h5, h6, h7⟩ := h
  refine ⟨fun i hi => ?_, h2, h3, h4, fun j hj => absurd hj (Nat.not_lt_zero j), Nat.zero_le _, fun i hi h0 => ?_⟩
  · by_cases e : i = k
    · have e0 : uW k s f σ 0 i 0 = s := if_pos e
      have e3 : uW k s f σ 3 i = fun j => if j = 1 then 9 else 0 := funext fun j => if_pos e
      rw [e0, e3]
      refine ⟨hs2, fun j hj => ?_, by unfold okS; decide, Nat.zero_le _⟩
      have e1 : uW k s f σ 1 i j = f j / 16 := if_pos e
      have e2 : uW k s f σ 2 i j = f j % 16 := if_pos e
      rw [e1, e2]
      have := hf j hj
      omega
    · have e0 : uW k s f σ 0 i 0 = σ 0 i 0 := if_neg e
      have e3 : uW k s f σ 3 i = σ 3 i := funext fun j => if_neg e
      rw [e0, e3]
      obtain ⟨a1, a2, a3, a4⟩ := h1 i hi
      refine ⟨a1, fun j hj => ?_, a3, a4⟩
      have e1 : uW k s f σ 1 i j = σ 1 i j := if_neg e
      have e2 : uW k s f σ 2 i j = σ 2 i j := if_neg e
      rw [e1, e2]
      exact a2 j hj
  · by_cases e : i = k
    · have e0 : uW k s f σ 0 i 0 = s := if_pos e
      rw [e0] at h0
      omega
    · have e0 : uW k s f σ 0 i 0 = σ 0 i 0 := if_neg e
      have e4 : uW k s f σ 3 i 4 = σ 3 i 4 := if_neg e
      have e5 : uW k s f σ 3 i 5 = σ 3 i 5 := if_neg e
      rw [e0] at h0
      rw [e4, e5]
      exact h7 i hi h0
theorem tp_okc {σ : ST} (hB : BND σ) {m : Nat} (hm : m ≤ σ 9 0 0) : okc (tpS σ) m (ccS (tpS σ) m) := ⟨rfl, fun j hj => hB.2.2.2.2.1 j (by omega)⟩
def gW (σ : ST) (x w : Int32) : Prop := rg x 11 ∧ tp σ w 1 80
noncomputable def r_witness (x w : Int32) (σ : ST) : Value := .int (gd (gW σ x w) (match rdS 1 24 w.toNatClampNeg (ccS (tpS σ) w.toNatClampNeg) with | .inl z => z | .inr r => nI r.2.1) (-1))
noncomputable def u_witness (x w : Int32) (σ : ST) : ST := gd (gW σ x w) (match rdS 1 24 w.toNatClampNeg (ccS (tpS σ) w.toNatClampNeg) with | .inl _ => u0 σ | .inr r => uW x.toNatClampNeg r.2.1 r.2.2 σ) σ
theorem b_witness (x w : Int32) : ∀ σ, BND σ → BND (u_witness x w σ) := by
  intro σ h
  unfold u_witness
  by_cases c : gW σ x w
  · rw [gd_t c]
    obtain ⟨_, m, m1, m2, m3, rfl⟩ := c
    rw [nI_clamp (n := m) (by omega)]
    cases hr : rdS 1 24 m (ccS (tpS σ) m) with
    | inl z => exact u0_B h
    | inr r =>
      obtain ⟨⟨a1, a2, a3, a4, a5⟩, _⟩ := rd_ok (tp_okc h m3) hr
      exact uW_B h (by omega) a4 (fun i hi => a5 i hi)
  · rw [gd_f c]
    exact h
section PWit
variable {g : GL} {d n : Nat} {I : IM} {J : JM} {R : RM} {Q : PQ} {σ : ST}
set_option maxRecDepth 100000 in
set_option maxHeartbeats 2000000 in
theorem x_tell {k s : Nat} {f : FN} (hN : 152 ≤ n) (hR : RS R) (hk : k < 12) (hs : s ≤ 24) (hI : ∀ i, i < s → I 21 i = nI (f i)) (hf : ∀ i, i < s → f i < 1600) (hQ : ∀ I2 : IM, (∀ x, x ≠ 54 + 5 * k → x ≠ 55 + 5 * k → x ≠ 56 + 5 * k → x ≠ 57 + 5 * k → I2 x = I x) → I2 (54 + 5 * k) 4 = nI s → I2 (54 + 5 * k) 5 = nI 1 → (∀ q, q < s → I2 (55 + 5 * k) q = nI (f q / 16) ∧ I2 (56 + 5 * k) q = nI (f q % 16)) → (∀ j, j < 6 → I2 (57 + 5 * k) j = nI (if j = 1 then 9 else 0)) → Q none n I2 J R) : E g mX10_tell (d + 1) 0 0 0 (ent 4 [.ref (54 + 5 * k), .ref 21, .int (nI s)]) [] n I J R Q := by
  have L : ∀ i, i ≤ s → ∀ I2 : IM, ((∀ x, x ≠ 54 + 5 * k → x ≠ 55 + 5 * k → x ≠ 56 + 5 * k → I2 x = I x) ∧ I2 (54 + 5 * k) 4 = nI s ∧ ∀ q, q < i → I2 (55 + 5 * k) q = nI (f q / 16) ∧ I2 (56 + 5 * k) q = nI (f q % 16)) → E g mX10_tell (d + 1) 0 0 12 [.ref (54 + 5 * k), .ref 21, .int (nI s), .int (nI i)] [] n I2 J R Q := by
    refine loopU s (fun I2 hv => ?_) (fun i hi ih I2 hv => ?_)
    · refine E_iload_n dX10_tell_12 rfl ?_
      refine E_aload_n dX10_tell_13 rfl ?_
      refine E_getI dX10_tell_14 f_X10_28 (LYw k (by first | assumption | omega)).1 (by first | assumption | omega) rfl ?_
      refine E.top (hv.2.1) ?_
      refine E_cN_ge (a := s) (b := s) (tgt := 50) dX10_tell_17 (by omega) (by omega) (by decide) (fun cw17 => ?_) (fun cw17 => absurd cw17 (by omega))
      refine E_aload_n dX10_tell_50 rfl ?_
      refine E_getR dX10_tell_51 f_X10_21 (LYw k (by first | assumption | omega)).1 (by first | assumption | omega) rfl (hR _ _ _ (RTw k (by first | assumption | omega)).2.2.1) ?_
      refine E_callV (As := []) (ci := 7) (kc' := 0) (ks' := 0) (kc := 0) (ks := 0) dX10_tell_54 ok_X8_renew w_X10_42 i_X8_renew s_X8_renew rfl (by decide) (LYw k (by first | assumption | omega)).2.2.2.1 (by first | assumption | omega) rfl rfl rfl (Nat.le_of_ble_eq_true rfl) (Nat.le_of_ble_eq_true rfl) (Nat.le_refl _) (c_State_renew (LYw k hk).2.2.2.1 (by omega) ?_)
      refine E_aload_n dX10_tell_57 rfl ?_
      refine E_ic (nI 1) dX10_tell_58 (by decide) ?_
      refine E_putZ dX10_tell_59 f_X10_32 (LYw k (by first | assumption | omega)).1 (by first | assumption | omega) rfl (by decide) ?_
      exact E_ret dX10_tell_62 rfl (hQ _ (fun x h1 h2 h3 h4 => (up2_o _ _ _ _ x h1).trans ((funext fun y => if_neg h4).trans (hv.1 x h1 h2 h3))) ((up2_k _ _ (by decide)).trans ((show st6 I2 (57 + 5 * k) 0 9 0 0 0 0 (54 + 5 * k) 4 = I2 (54 + 5 * k) 4 from if_neg (by omega)).trans hv.2.1)) (up2_s _ _ _ _) (fun q hq => by
            rw [up2_o _ (54 + 5 * k) _ _ (55 + 5 * k) (by omega), up2_o _ (54 + 5 * k) _ _ (56 + 5 * k) (by omega), show st6 I2 (57 + 5 * k) 0 9 0 0 0 0 (55 + 5 * k) q = I2 (55 + 5 * k) q from if_neg (by omega), show st6 I2 (57 + 5 * k) 0 9 0 0 0 0 (56 + 5 * k) q = I2 (56 + 5 * k) q from if_neg (by omega)]
            exact hv.2.2 q hq) (fun j hj => by
            rw [up2_o _ (54 + 5 * k) _ _ (57 + 5 * k) (by omega)]
            have cj : j = 0 ∨ j = 1 ∨ j = 2 ∨ j = 3 ∨ j = 4 ∨ j = 5 := by omega
            rcases cj with rfl | rfl | rfl | rfl | rfl | rfl <;> exact if_pos rfl))
    · refine E_iload_n dX10_tell_12 rfl ?_
      refine E_aload_n dX10_tell_13 rfl ?_
      refine E_getI dX10_tell_14 f_X10_28 (LYw k (by first | assumption | omega)).1 (by first | assumption | omega) rfl ?_
      refine E.top (hv.2.1) ?_
      refine E_cN_ge (a := i) (b := s) (tgt := 50) dX10_tell_17 (by omega) (by omega) (by decide) (fun cw17 => absurd cw17 (by omega)) (fun cw17 => ?_)
      refine E_aload_n dX10_tell_20 rfl ?_
      refine E_getR dX10_tell_21 f_X10_9 (LYw k (by first | assumption | omega)).1 (by first | assumption | omega) rfl (hR _ _ _ (RTw k (by first | assumption | omega)).1) ?_
      refine E_iload_n dX10_tell_24 rfl ?_
      refine E_aload_n dX10_tell_25 rfl ?_
      refine E_iload_n dX10_tell_26 rfl ?_
      refine E_ialdN dX10_tell_27 rfl (Nat.lt_of_lt_of_le (by decide) hN) (by omega) ?_
      refine E.top ((congrFun (hv.1 21 (by omega) (by omega) (by omega)) i).trans (hI i hi)) ?_
      refine E_bp (nI 16) dX10_tell_28 (by decide) ?_
      refine E_idiv dX10_tell_30 (by decide) ?_
      refine E.top (pk_div (a := f i) (d := 16) (by have := hf i hi; omega) (by decide) (by decide)) ?_
      refine E_iastN dX10_tell_31 (LYw k (by first | assumption | omega)).2.1 (by first | assumption | omega) (by omega) ?_
      refine E_aload_n dX10_tell_32 rfl ?_
      refine E_getR dX10_tell_33 f_X10_15 (LYw k (by first | assumption | omega)).1 (by first | assumption | omega) rfl (hR _ _ _ (RTw k (by first | assumption | omega)).2.1) ?_
      refine E_iload_n dX10_tell_36 rfl ?_
      refine E_aload_n dX10_tell_37 rfl ?_
      refine E_iload_n dX10_tell_38 rfl ?_
      refine E_ialdN dX10_tell_39 rfl (Nat.lt_of_lt_of_le (by decide) hN) (by omega) ?_
      refine E.top ((congrFun ((up2_o _ _ _ _ 21 (by omega)).trans (hv.1 21 (by omega) (by omega) (by omega))) i).trans (hI i hi)) ?_
      refine E_bp (nI 16) dX10_tell_40 (by decide) ?_
      refine E_irem dX10_tell_42 (by decide) ?_
      refine E.top (pk_rem (a := f i) (d := 16) (by have := hf i hi; omega) (by decide) (by decide)) ?_
      refine E_iastN dX10_tell_43 (LYw k (by first | assumption | omega)).2.2.1 (by first | assumption | omega) (by omega) ?_
      refine E_incN dX10_tell_44 rfl ?_
      refine E_goto (tgt := 12) dX10_tell_47 (by decide) ?_
      refine ih _ ⟨fun x h1 h2 h3 => (up2_o _ _ _ _ x h3).trans ((up2_o _ _ _ _ x h2).trans (hv.1 x h1 h2 h3)), (congrFun ((up2_o _ _ _ _ _ (by omega)).trans (up2_o _ _ _ _ _ (by omega))) 4).trans hv.2.1, fun q hq => ?_⟩
      rw [up2_o _ (56 + 5 * k) _ _ (55 + 5 * k) (by omega)]
      rcases Nat.lt_succ_iff_lt_or_eq.mp hq with z | z
      · rw [up2_k _ _ (show q ≠ i by omega), up2_k _ _ (show q ≠ i by omega), up2_o _ (55 + 5 * k) _ _ (56 + 5 * k) (by omega)]
        exact hv.2.2 q z
      · subst z
        exact ⟨up2_s _ _ _ _, up2_s _ _ _ _⟩
  refine E_aload_n dX10_tell_0 rfl ?_
  refine E_iload_n dX10_tell_1 rfl ?_
  refine E_bp (nI 24) dX10_tell_2 (by decide) ?_
  refine E_mmin dX10_tell_4 w_X10_36 (Nat.le_of_ble_eq_true rfl) (by omega) ?_
  refine E.top (nI_min s 24 (by omega) (by omega)) ?_
  refine E.top (congrArg nI (show min s 24 = s by omega)) ?_
  refine E_putI dX10_tell_7 f_X10_28 (LYw k (by first | assumption | omega)).1 (by first | assumption | omega) rfl ?_
  refine E_ic (nI 0) dX10_tell_10 (by decide) ?_
  refine E_istore_n dX10_tell_11 (Nat.le_of_ble_eq_true rfl) ?_
  exact L 0 (Nat.zero_le _) _ ⟨fun x h1 _ _ => up2_o I _ _ _ x h1, up2_s _ _ _ _, fun q hq => absurd hq (Nat.not_lt_zero q)⟩
theorem XRn {σ : ST} {n : Nat} {I I' : IM} {R R' : RM} (h : XR σ n I R) (hn : XN n R') (e : ∀ a, 54 ≤ a → a < 114 → I' a = I a) (e0 : I' 0 = I 0) (e2 : I' 2 = I 2) : XR σ n I' R' := by
  obtain ⟨h1, h2, h3, h4, h5⟩ := h
  exact ⟨h1.congr e, e0 ▸ h2, e2 ▸ h3, hn, h5.congr e⟩
set_option maxRecDepth 100000 in
set_option maxHeartbeats 2000000 in
theorem sx_witness (x w : Int32) : SXR mX11_witness [.int x, .int w] (r_witness x w) (u_witness x w) := by
  intro g n I J R σ Q hB hX hQ
  have hN := hX.2.2.2.1.n.1
  have hR := hX.2.2.2.1.1
  have b9 : σ 9 0 0 ≤ 260 := hB.2.2.2.2.2.1
  unfold r_witness u_witness at hQ
  rcases i32_ix x 12 (by decide) with hx | ⟨k, hk, rfl⟩
  · have hno : ¬ gW σ x w := fun z => rg_no hx (by decide) z.1
    rw [gd_f hno] at hQ
    rw [gd_f hno] at hQ
    have hq := hQ I J R hX (fun _ _ _ => rfl) (fun _ _ _ => rfl)
    refine E_iload_n dX11_witness_0 rfl ?_
    refine E_if_lt (tgt := 21) dX11_witness_1 (by decide) (fun cw1 => ?_) (fun cw1 => ?_)
    · refine E_ic (-1) dX11_witness_21 (by decide) ?_
      exact E_iret dX11_witness_22 rfl (hq)
    · refine E_iload_n dX11_witness_4 rfl ?_
      refine E_bp (nI 12) dX11_witness_5 (by decide) ?_
      refine E_icmp_ge (tgt := 21) dX11_witness_7 (by decide) (fun cw7 => ?_) (fun cw7 => by first | exact absurd cw7 (hx.elim (fun q => absurd q (Int32.not_lt.mpr (Int32.not_lt.mp cw1))) id) | exact absurd (hx.elim (fun q => absurd q (Int32.not_lt.mpr (Int32.not_lt.mp cw1))) id) cw7)
      refine E_ic (-1) dX11_witness_21 (by decide) ?_
      exact E_iret dX11_witness_22 rfl (hq)
  refine E_iload_n dX11_witness_0 rfl ?_
  refine E_zN_lt (a := k) (tgt := 21) dX11_witness_1 (by omega) (by decide) (fun cw1 => cw1.elim) (fun cw1 => ?_)
  refine E_iload_n dX11_witness_4 rfl ?_
  refine E_bp (nI 12) dX11_witness_5 (by decide) ?_
  refine E_cN_ge (a := k) (b := 12) (tgt := 21) dX11_witness_7 (by omega) (by decide) (by decide) (fun cw7 => absurd cw7 (by omega)) (fun cw7 => ?_)
  refine E_aload_n dX11_witness_10 rfl ?_
  refine E_iload_n dX11_witness_11 rfl ?_
  refine E_ic (nI 1) dX11_witness_12 (by decide) ?_
  refine E_bp (nI 80) dX11_witness_13 (by decide) ?_
  refine E_callV (As := [_, _, _]) (ci := 10) (kc' := 0) (ks' := 0) (kc := 0) (ks := 0) dX11_witness_15 ok_X11_tapeHas w_X11_113 i_X11_tapeHas s_X11_tapeHas rfl (by decide) rfl (Nat.lt_of_lt_of_le (by decide) hN) rfl rfl rfl (Nat.le_of_ble_eq_true rfl) (Nat.le_of_ble_eq_true rfl) (Nat.le_refl _) (X_tapeHas (d := 899) (by decide) (by decide) hB hX (fun m h1 h2 h3 e => ?_) (fun z => ?_))
  · subst e
    have hg : gW σ (nI k) (nI m) := ⟨rg_of (by omega), tp_of h1 h2 h3⟩
    rw [gd_t hg, gd_t hg, nI_clamp (n := m) (by omega), nI_clamp (n := k) (by omega)] at hQ
    have hc := tp_okc hB h3
    have hXN : XN n (up2 R 20 1 (some 2)) := ⟨RS.up hR rfl, hX.2.2.2.1.2.elim (fun z => Or.inl z) (fun z => Or.inr z)⟩
    have fb : ∀ (I4 : IM), RFx (up2 (up2 (up2 (up2 (up2 (up2 (up2 I 0 2 (nI 0)) 20 2 (nI m)) 20 3 (nI 0)) 20 4 (nI 0)) 20 6 (nI 0)) 20 7 (nI 1)) 20 5 (nI 24)) I4 → ∀ x, x ≠ 20 → x ≠ 21 → I4 x = (up2 I 0 2 (nI 0)) x := fun I4 f4 x h1 h2 => (f4.1 x h1 h2).trans (by rw [up2_o _ 20 _ _ x h1, up2_o _ 20 _ _ x h1, up2_o _ 20 _ _ x h1, up2_o _ 20 _ _ x h1, up2_o _ 20 _ _ x h1, up2_o _ 20 _ _ x h1])
    refine E_zN_ne (a := 1) (tgt := 23) dX11_witness_18 (by decide) (by decide) (fun cw18 => ?_) (fun cw18 => absurd cw18 (by omega))
    refine E_aload_n dX11_witness_23 rfl ?_
    refine E_ic (nI 0) dX11_witness_24 (by decide) ?_
    refine E_putI dX11_witness_25 f_X11_19 rfl (Nat.lt_of_lt_of_le (by decide) hN) rfl ?_
    refine E_aload_n dX11_witness_28 rfl ?_
    refine E_getR dX11_witness_29 f_X11_40 rfl (Nat.lt_of_lt_of_le (by decide) hN) rfl (hR _ _ _ rfl) ?_
    refine E_aload_n dX11_witness_32 rfl ?_
    refine E_getR dX11_witness_33 f_X11_15 rfl (Nat.lt_of_lt_of_le (by decide) hN) rfl (hR _ _ _ rfl) ?_
    refine E_iload_n dX11_witness_36 rfl ?_
    refine E_ic (nI 1) dX11_witness_37 (by decide) ?_
    refine E_callV (As := [_, _, _]) (ci := 6) (kc' := 0) (ks' := 0) (kc := 0) (ks := 0) dX11_witness_38 ok_X7_read w_X11_128 i_X7_read s_X7_read rfl (by decide) rfl (Nat.lt_of_lt_of_le (by decide) hN) rfl rfl rfl (Nat.le_of_ble_eq_true rfl) (Nat.le_of_ble_eq_true rfl) (Nat.le_refl _) (x_read1 (d := 887) hN hR hc (by omega) (fun j hj => hX.2.2.1 j (by omega)) ?_)
    cases hr : rdS 1 24 m (ccS (tpS σ) m) with
    | inl z =>
      have hQ : ∀ (I' : IM) (J' : JM) (R' : RM), XR (u0 σ) n I' R' → (∀ a, 3 ≤ a → a ≤ 8 → I' a = I a) → (∀ a, 114 ≤ a → a < 152 → I' a = I a) → Q (some (.int z)) n I' J' R' := by rw [hr] at hQ; exact hQ
      intro I4 f4
      refine E_istore_n dX11_witness_41 (Nat.le_of_ble_eq_true rfl) ?_
      refine E_iload_n dX11_witness_42 rfl ?_
      refine E_if_lt (tgt := 63) dX11_witness_43 (by decide) (fun cw43 => ?_) (fun cw43 => by first | exact absurd cw43 (rd_neg hc (by omega) hr) | exact absurd (rd_neg hc (by omega) hr) cw43)
      refine E_iload_n dX11_witness_63 rfl ?_
      exact E_iret dX11_witness_64 rfl (hQ I4 J _ (XRn (u0_X hX) hXN (fun a h1 h2 => fb I4 f4 a (by omega) (by omega)) (fb I4 f4 0 (by decide) (by decide)) (fb I4 f4 2 (by decide) (by decide))) (fun a a1 a2 => (fb I4 f4 a (by omega) (by omega)).trans (up2_o I 0 2 _ a (by omega))) (fun a a1 a2 => (fb I4 f4 a (by omega) (by omega)).trans (up2_o I 0 2 _ a (by omega))))
    | inr r =>
      have hQ : ∀ (I' : IM) (J' : JM) (R' : RM), XR (uW k r.2.1 r.2.2 σ) n I' R' → (∀ a, 3 ≤ a → a ≤ 8 → I' a = I a) → (∀ a, 114 ≤ a → a < 152 → I' a = I a) → Q (some (.int (nI r.2.1))) n I' J' R' := by rw [hr] at hQ; exact hQ
      obtain ⟨⟨a1, a2, a3, a4, a5⟩, _⟩ := rd_ok hc hr
      intro I4 f4 i4
      refine E_istore_n dX11_witness_41 (Nat.le_of_ble_eq_true rfl) ?_
      refine E_iload_n dX11_witness_42 rfl ?_
      refine E_zN_lt (a := r.2.1) (tgt := 63) dX11_witness_43 (by omega) (by decide) (fun cw43 => cw43.elim) (fun cw43 => ?_)
      refine E_aload_n dX11_witness_46 rfl ?_
      refine E_getR dX11_witness_47 f_X11_11 rfl (Nat.lt_of_lt_of_le (by decide) hN) rfl (hXN.1 _ _ _ rfl) ?_
      refine E_iload_n dX11_witness_50 rfl ?_
      refine E_aaldN dX11_witness_51 rfl (Nat.lt_of_lt_of_le (by decide) hN) (by first | assumption | omega) (hXN.1 _ _ _ (RT1 k (by first | assumption | omega))) ?_
      refine E_aload_n dX11_witness_52 rfl ?_
      refine E_getR dX11_witness_53 f_X11_40 rfl (Nat.lt_of_lt_of_le (by decide) hN) rfl (hXN.1 _ _ _ rfl) ?_
      refine E_getR dX11_witness_56 f_X11_131 rfl (Nat.lt_of_lt_of_le (by decide) hN) rfl (hXN.1 _ _ _ rfl) ?_
      refine E_iload_n dX11_witness_59 rfl ?_
      refine E_callV (As := [_, _]) (ci := 9) (kc' := 0) (ks' := 0) (kc := 0) (ks := 0) dX11_witness_60 ok_X10_tell w_X11_134 i_X10_tell s_X10_tell rfl (by decide) (LYw k (by first | assumption | omega)).1 (by first | assumption | omega) rfl rfl rfl (Nat.le_of_ble_eq_true rfl) (Nat.le_of_ble_eq_true rfl) (Nat.le_refl _) (x_tell (d := 898) (s := r.2.1) (f := r.2.2) hN hXN.1 hk a4 (fun i hi => i4 i hi (by omega)) (fun i hi => a5 i hi) (fun I5 g5 l5 t5 y5 n5 => ?_))
      refine E_iload_n dX11_witness_63 rfl ?_
      refine E_iret dX11_witness_64 rfl ?_
      refine hQ I5 J _ ⟨fun i hi => ?_, ?_, fun j hj => absurd hj (Nat.not_lt_zero j), hXN, fun i hi => ?_⟩ (fun a a1 a2 => (g5 a (by omega) (by omega) (by omega) (by omega)).trans ((fb I4 f4 a (by omega) (by omega)).trans (up2_o I 0 2 _ a (by omega)))) (fun a a1 a2 => (g5 a (by omega) (by omega) (by omega) (by omega)).trans ((fb I4 f4 a (by omega) (by omega)).trans (up2_o I 0 2 _ a (by omega))))
      · by_cases e : i = k
        · subst e
          have e0 : uW i r.2.1 r.2.2 σ 0 i 0 = r.2.1 := if_pos rfl
          rw [e0]
          refine ⟨l5, by rw [t5]; congr 1; omega, fun q hq => ?_, fun q hq => ?_, fun z q hq => ?_⟩
          · have e1 : uW i r.2.1 r.2.2 σ 1 i q = r.2.2 q / 16 := if_pos rfl
            have e2 : uW i r.2.1 r.2.2 σ 2 i q = r.2.2 q % 16 := if_pos rfl
            rw [e1, e2]
            exact y5 q hq
          · have e3 : uW i r.2.1 r.2.2 σ 3 i q = if q = 1 then 9 else 0 := if_pos rfl
            rw [e3]
            exact n5 q hq
          · rw [g5 (58 + 5 * i) (by omega) (by omega) (by omega) (by omega), fb I4 f4 (58 + 5 * i) (by omega) (by omega), up2_o I 0 2 _ (58 + 5 * i) (by omega)]
            exact (hX.1 i hi).2.2.2.2 z q hq
        · have e0 : uW k r.2.1 r.2.2 σ 0 i 0 = σ 0 i 0 := if_neg e
          have ea : ∀ j, j = 54 ∨ j = 55 ∨ j = 56 ∨ j = 57 ∨ j = 58 → I5 (j + 5 * i) = I (j + 5 * i) := fun j hj => by rw [g5 (j + 5 * i) (by omega) (by omega) (by omega) (by omega), fb I4 f4 (j + 5 * i) (by omega) (by omega), up2_o I 0 2 _ (j + 5 * i) (by omega)]
          obtain ⟨w1, w2, w3, w4, w5⟩ := hX.1 i hi
          rw [e0, ea 54 (by decide), ea 55 (by decide), ea 56 (by decide), ea 57 (by decide), ea 58 (by decide)]
          refine ⟨w1, w2, fun q hq => ?_, fun q hq => ?_, fun z q hq => ?_⟩
          · have e1 : uW k r.2.1 r.2.2 σ 1 i q = σ 1 i q := if_neg e
            have e2 : uW k r.2.1 r.2.2 σ 2 i q = σ 2 i q := if_neg e
            rw [e1, e2]
            exact w3 q hq
          · have e3 : uW k r.2.1 r.2.2 σ 3 i q = σ 3 i q := if_neg e
            rw [e3]
            exact w4 q hq
          · exact w5 z q hq
      · have e0 : I5 0 = up2 I 0 2 (nI 0) 0 := by rw [g5 0 (by omega) (by omega) (by omega) (by omega), fb I4 f4 0 (by decide) (by decide)]
        rw [e0]
        exact (u0_X hX).2.1
      · rw [show I5 (58 + 5 * i) = I (58 + 5 * i) by rw [g5 (58 + 5 * i) (by omega) (by omega) (by omega) (by omega), fb I4 f4 (58 + 5 * i) (by omega) (by omega), up2_o I 0 2 _ (58 + 5 * i) (by omega)]]
        exact hX.2.2.2.2 i hi
  · have hno : ¬ gW σ (nI k) w := fun y => z y.2
    rw [gd_f hno] at hQ
    rw [gd_f hno] at hQ
    have hq := hQ I J R hX (fun _ _ _ => rfl) (fun _ _ _ => rfl)
    refine E_zN_ne (a := 0) (tgt := 23) dX11_witness_18 (by decide) (by decide) (fun cw18 => absurd cw18 (by omega)) (fun cw18 => ?_)
    refine E_ic (-1) dX11_witness_21 (by decide) ?_
    exact E_iret dX11_witness_22 rfl (hq)
end PWit
