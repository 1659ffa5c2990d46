/-! ===== cellar ===== -/
theorem i32_out (x : Int32) (lo hi : Nat) (h1 : lo < 2 ^ 31) (h2 : hi < 2 ^ 31) : (x < nI lo ∨ nI hi < x) ∨ ∃ m, lo ≤ m ∧ m ≤ hi ∧ x = nI m := by
  by_cases c1 : x < nI lo
  · exact Or.inl (Or.inl c1)
  · by_cases c2 : nI hi < x
    · exact Or.inl (Or.inr c2)
    · have h0 : ¬ x < 0 := fun z => c1 (Int32.lt_of_lt_of_le z (nI_pos' h1))
      obtain ⟨m, hm, rfl⟩ := nI_of h0
      exact Or.inr ⟨m, (nI_leI h1 hm).mp (Int32.not_lt.mp c1), (nI_leI hm h2).mp (Int32.not_lt.mp c2), rfl⟩
/-- a place among m, or all in all -/
def plS (v : Int32) (m : Nat) : Prop := v = nI 100 ∨ ∃ k, k < m ∧ v = nI k
theorem pl_iff {v : Int32} {m : Nat} (hm : m < 2 ^ 31) : (v = 100 ∨ (¬ v < 0 ∧ ¬ nI m ≤ v)) ↔ plS v m := by
  constructor
  · rintro (h | ⟨h1, h2⟩)
    · exact Or.inl h
    · obtain ⟨k, hk, rfl⟩ := nI_of h1
      exact Or.inr ⟨k, (nI_ltI hk hm).mp (Int32.not_le.mp h2), rfl⟩
  · rintro (h | ⟨k, hk, rfl⟩)
    · exact Or.inl h
    · exact Or.inr ⟨nI_pos (by omega), fun z => by have := (nI_leI hm (by omega)).mp z; omega⟩
def clS (σ : ST) (fr s w : Nat) : Nat := σ 8 (2 * w + 1) 0 * dfS (σ 8 (2 * w) 0) (fr + pop s 12)
def bdS (σ : ST) (m : Nat) : Prop := ∃ k, k < m ∧ (99 < σ 8 (2 * k) 0 ∨ 50 < σ 8 (2 * k + 1) 0)
def gC (σ : ST) (x w v : Int32) : Prop := ∃ m, (1 ≤ m ∧ m ≤ 8 ∧ x = nI m ∧ 2 * m ≤ σ 9 0 0) ∧ rg w 99 ∧ plS v m
noncomputable def r_cellar (x w v : Int32) (σ : ST) : Value := .int (gd (gC σ x w v) (gd (bdS σ x.toNatClampNeg) (-3) (if v = nI 100 then nI (rtS (clS σ w.toNatClampNeg) x.toNatClampNeg 0) else nI (pthS (clS σ w.toNatClampNeg) (rtS (clS σ w.toNatClampNeg) x.toNatClampNeg) x.toNatClampNeg (v.toNatClampNeg + 1)).2)) (-1))
noncomputable def u_cellar (x w v : Int32) (σ : ST) : ST := gd (gC σ x w v) (u0 σ) σ
theorem b_cellar (x w v : Int32) : ∀ σ, BND σ → BND (u_cellar x w v σ) := by
  intro σ h
  unfold u_cellar
  by_cases c : gC σ x w v
  · rw [gd_t c]
    exact u0_B h
  · rw [gd_f c]
    exact h
theorem clS_le {σ : ST} {fr m : Nat} (hfr : fr ≤ 99) (hok : ∀ k, k < m → σ 8 (2 * k) 0 ≤ 99 ∧ σ 8 (2 * k + 1) 0 ≤ 50) : ∀ s w, s < 2 ^ m → w < m → clS σ fr s w ≤ 5550 := by
  intro s w _ hw
  have h1 := hok w hw
  have h2 := pop_le s 12
  exact Nat.mul_le_mul h1.2 (dfS_le (c := 111) (by omega) (by omega))
theorem clS_e {σ : ST} {fr s w q : Nat} (h : pop s 12 = q) : nI (σ 8 (2 * w + 1) 0 * dfS (σ 8 (2 * w) 0) (fr + q)) = nI (clS σ fr s w) := by
  unfold clS
  rw [h]
section PCellar
variable {g : GL} {d n : Nat} {I : IM} {J : JM} {R : RM} {Q : PQ} {σ : ST}
set_option maxRecDepth 100000 in
set_option maxHeartbeats 2000000 in
theorem x_costC {m fr s w : Nat} (hN : 152 ≤ n) (hR : RS R) (hf : I 43 4 = nI fr) (hfr : fr ≤ 99) (hbw : ∀ i, i < m → I 45 i = nI (σ 8 (2 * i) 0) ∧ I 46 i = nI (σ 8 (2 * i + 1) 0)) (hm : m ≤ 8) (hok : ∀ k, k < m → σ 8 (2 * k) 0 ≤ 99 ∧ σ 8 (2 * k + 1) 0 ≤ 50) (hs : s < 2 ^ m) (hw : w < m) (hQ : Q (some (.int (nI (clS σ fr s w)))) n I J R) : E g mX1_cost (d + 1) 0 0 0 (ent 4 [.ref 43, .int (nI s), .int (nI w)]) [] n I J R Q := by
  have p2 : 2 ^ m ≤ 256 := Nat.pow_le_pow_right (show 0 < 2 by decide) hm
  have h1 := hok w hw
  have h2 := pop_le s 12
  refine E_aload_n dX1_cost_0 rfl ?_
  refine E_getI dX1_cost_1 f_X1_18 rfl (Nat.lt_of_lt_of_le (by decide) hN) rfl ?_
  refine E.top (hf) ?_
  refine E_iload_n dX1_cost_4 rfl ?_
  refine E_callS (As := [_]) (kc' := 0) (ks' := 0) (kc := 0) (ks := 0) dX1_cost_5 ok_J6_bitCount_0f7a4 w_X1_22 st_J6_bitCount_0f7a4 rfl rfl rfl (Nat.le_of_ble_eq_true rfl) (Nat.le_of_ble_eq_true rfl) (Nat.le_refl _) (c_bitCount ?_)
  refine E.top (bc_pop _ (by omega)) ?_
  refine E_iadd dX1_cost_8 ?_
  refine E.top (nI_add fr (pop s 12)) ?_
  refine E_istore_n dX1_cost_9 (Nat.le_of_ble_eq_true rfl) ?_
  refine E_aload_n dX1_cost_10 rfl ?_
  refine E_getR dX1_cost_11 f_X1_15 rfl (Nat.lt_of_lt_of_le (by decide) hN) rfl (hR _ _ _ rfl) ?_
  refine E_iload_n dX1_cost_14 rfl ?_
  refine E_ialdN dX1_cost_15 rfl (Nat.lt_of_lt_of_le (by decide) hN) (by first | assumption | omega) ?_
  refine E.top ((hbw w (by omega)).2) ?_
  refine E_aload_n dX1_cost_16 rfl ?_
  refine E_getR dX1_cost_17 f_X1_9 rfl (Nat.lt_of_lt_of_le (by decide) hN) rfl (hR _ _ _ rfl) ?_
  refine E_iload_n dX1_cost_20 rfl ?_
  refine E_ialdN dX1_cost_21 rfl (Nat.lt_of_lt_of_le (by decide) hN) (by first | assumption | omega) ?_
  refine E.top ((hbw w (by omega)).1) ?_
  refine E_iload_n dX1_cost_22 rfl ?_
  refine E_isub dX1_cost_23 ?_
  refine E_mabs dX1_cost_24 w_X1_28 (Nat.le_of_ble_eq_true rfl) (by omega) ?_
  refine E.top (ab_df (by omega) (by omega)) ?_
  refine E_imul dX1_cost_27 ?_
  refine E.top (pk_mul (σ 8 (2 * w + 1) 0) (dfS (σ 8 (2 * w) 0) (fr + pop s 12))) ?_
  exact E_iret dX1_cost_28 rfl (hQ)
set_option maxRecDepth 100000 in
set_option maxHeartbeats 2000000 in
theorem x_store {m fr : Nat} (hN : 152 ≤ n) (hR : RS R) (hT : TX σ I) (hm : m ≤ 8) (hm2 : 2 * m ≤ σ 9 0 0) (b9 : σ 9 0 0 ≤ 260) (hQ : Q none n (put (put (up2 I 43 4 (nI fr)) 46 m (fun i => nI (σ 8 (2 * i + 1) 0))) 45 m (fun i => nI (σ 8 (2 * i) 0))) J R) : E g mX1_store d 0 0 0 (ent 5 [.ref 43, .ref 2, .int (nI m), .int (nI fr)]) [] n I J R Q := by
  have L : ∀ i, i ≤ m → E g mX1_store d 0 0 8 [.ref 43, .ref 2, .int (nI m), .int (nI fr), .int (nI i)] [] n (put (put (up2 I 43 4 (nI fr)) 46 i (fun i => nI (σ 8 (2 * i + 1) 0))) 45 i (fun i => nI (σ 8 (2 * i) 0))) J R Q := by
    refine loopU m ?_ (fun i hi ih => ?_)
    · refine E_iload dX1_store_8 rfl ?_
      refine E_iload_n dX1_store_10 rfl ?_
      refine E_cN_ge (a := m) (b := m) (tgt := 66) dX1_store_11 (by omega) (by omega) (by decide) (fun c11 => ?_) (fun c11 => absurd c11 (by omega))
      exact E_ret dX1_store_66 rfl (hQ)
    · have hT0 : TX σ (up2 I 43 4 (nI fr)) := fun j hj => by rw [up2_o I 43 4 _ 2 (by decide)]; exact hT j hj
      have hT : TX σ (put (put (up2 I 43 4 (nI fr)) 46 i (fun i => nI (σ 8 (2 * i + 1) 0))) 45 i (fun i => nI (σ 8 (2 * i) 0))) := fun j hj => by rw [put_o _ 45 _ _ (by decide), put_o _ 46 _ _ (by decide)]; exact hT0 j hj
      refine E_iload dX1_store_8 rfl ?_
      refine E_iload_n dX1_store_10 rfl ?_
      refine E_cN_ge (a := i) (b := m) (tgt := 66) dX1_store_11 (by omega) (by omega) (by decide) (fun c11 => absurd c11 (by omega)) (fun c11 => ?_)
      refine E_iload dX1_store_14 rfl ?_
      refine E_bp (nI 8) dX1_store_16 (by decide) ?_
      refine E_cN_ge (a := i) (b := 8) (tgt := 66) dX1_store_18 (by omega) (by decide) (by decide) (fun c18 => absurd c18 (by omega)) (fun c18 => ?_)
      refine E_ic (nI 2) dX1_store_21 (by decide) ?_
      refine E_iload dX1_store_22 rfl ?_
      refine E_imul dX1_store_24 ?_
      refine E.top (pk_mul 2 i) ?_
      refine E_ic (nI 1) dX1_store_25 (by decide) ?_
      refine E_iadd dX1_store_26 ?_
      refine E.top (nI_add (2 * i) 1) ?_
      refine E_aload_n dX1_store_27 rfl ?_
      refine E_alen dX1_store_28 rfl (Nat.lt_of_lt_of_le (by decide) hN) (by decide) (by decide) ?_
      refine E.top (show _ = nI 260 from rfl) ?_
      refine E_cN_ge (a := (2 * i) + 1) (b := 260) (tgt := 66) dX1_store_29 (by omega) (by decide) (by decide) (fun c29 => absurd c29 (by omega)) (fun c29 => ?_)
      refine E_aload_n dX1_store_32 rfl ?_
      refine E_getR dX1_store_33 f_X1_9 rfl (Nat.lt_of_lt_of_le (by decide) hN) rfl (hR _ _ _ rfl) ?_
      refine E_iload dX1_store_36 rfl ?_
      refine E_aload_n dX1_store_38 rfl ?_
      refine E_ic (nI 2) dX1_store_39 (by decide) ?_
      refine E_iload dX1_store_40 rfl ?_
      refine E_imul dX1_store_42 ?_
      refine E.top (pk_mul 2 i) ?_
      refine E_ialdN dX1_store_43 rfl (Nat.lt_of_lt_of_le (by decide) hN) (by first | assumption | omega) ?_
      refine E.top (hT _ (by omega)) ?_
      refine E_iastN dX1_store_44 rfl (Nat.lt_of_lt_of_le (by decide) hN) (by first | assumption | omega) ?_
      refine E.mem (put_g _ (fun i => nI (σ 8 (2 * i) 0)) rfl) ?_
      have hT : TX σ (put (put (up2 I 43 4 (nI fr)) 46 i (fun i => nI (σ 8 (2 * i + 1) 0))) 45 (i + 1) (fun i => nI (σ 8 (2 * i) 0))) := fun j hj => by rw [put_o _ 45 _ _ (by decide), put_o _ 46 _ _ (by decide)]; exact hT0 j hj
      refine E_aload_n dX1_store_45 rfl ?_
      refine E_getR dX1_store_46 f_X1_15 rfl (Nat.lt_of_lt_of_le (by decide) hN) rfl (hR _ _ _ rfl) ?_
      refine E_iload dX1_store_49 rfl ?_
      refine E_aload_n dX1_store_51 rfl ?_
      refine E_ic (nI 2) dX1_store_52 (by decide) ?_
      refine E_iload dX1_store_53 rfl ?_
      refine E_imul dX1_store_55 ?_
      refine E.top (pk_mul 2 i) ?_
      refine E_ic (nI 1) dX1_store_56 (by decide) ?_
      refine E_iadd dX1_store_57 ?_
      refine E.top (nI_add (2 * i) 1) ?_
      refine E_ialdN dX1_store_58 rfl (Nat.lt_of_lt_of_le (by decide) hN) (by first | assumption | omega) ?_
      refine E.top (hT _ (by omega)) ?_
      refine E_iastN dX1_store_59 rfl (Nat.lt_of_lt_of_le (by decide) hN) (by first | assumption | omega) ?_
      refine E.mem ((put_up _ (fun i => nI (σ 8 (2 * i) 0)) (by decide)).trans (congrArg (fun X => put X 45 (i + 1) (fun i => nI (σ 8 (2 * i) 0))) (put_g (up2 I 43 4 (nI fr)) (fun i => nI (σ 8 (2 * i + 1) 0)) rfl))) ?_
      refine E_incN dX1_store_60 rfl ?_
      refine E_goto (tgt := 8) dX1_store_63 (by decide) ?_
      exact ih
  refine E_aload_n dX1_store_0 rfl ?_
  refine E_iload_n dX1_store_1 rfl ?_
  refine E_putI dX1_store_2 f_X1_18 rfl (Nat.lt_of_lt_of_le (by decide) hN) rfl ?_
  refine E_ic (nI 0) dX1_store_5 (by decide) ?_
  refine E_istore dX1_store_6 (Nat.le_of_ble_eq_true rfl) ?_
  refine E.mem ((put_0 (up2 I 43 4 (nI fr)) 46 (fun i => nI (σ 8 (2 * i + 1) 0))).symm.trans (put_0 _ 45 (fun i => nI (σ 8 (2 * i) 0))).symm) ?_
  exact L 0 (Nat.zero_le _)
set_option maxRecDepth 100000 in
set_option maxHeartbeats 2000000 in
theorem sx_cellar (x w v : Int32) : SX mX11_cellar [.int x, .int w, .int v] (r_cellar x w v) (u_cellar x w v) := by
  intro g n I J R σ Q hB hX hQ
  have hN := hX.2.2.2.1.n.1
  have hR := hX.2.2.2.1.1
  have b9 : σ 9 0 0 ≤ 260 := hB.2.2.2.2.2.1
  unfold r_cellar u_cellar at hQ
  rcases i32_out x 1 8 (by decide) (by decide) with hx | ⟨m, m1, m2, rfl⟩
  · have hno : ¬ gC σ x w v := fun ⟨m, ⟨a1, a2, a3, a4⟩, _⟩ => by subst a3; rcases hx with hx | hx; exact nI_nlt a1 (by omega) hx; exact nI_nlt a2 (by decide) hx
    rw [gd_f hno] at hQ
    rw [gd_f hno] at hQ
    have hq := hQ I J hX (fun _ _ _ => rfl) (fun _ _ _ => rfl)
    refine E_iload_n dX11_cellar_0 rfl ?_
    refine E_ic (nI 1) dX11_cellar_1 (by decide) ?_
    refine E_icmp_lt (tgt := 25) dX11_cellar_2 (by decide) (fun c2 => ?_) (fun c2 => ?_)
    · refine E_ic (nI 0) dX11_cellar_25 (by decide) ?_
      refine E_istore dX11_cellar_26 (Nat.le_of_ble_eq_true rfl) ?_
      refine E_iload dX11_cellar_28 rfl ?_
      refine E_zN_eq (a := 0) (tgt := 54) dX11_cellar_30 (by decide) (by decide) (fun c30 => ?_) (fun c30 => absurd c30 (by omega))
      refine E_ic (-1) dX11_cellar_54 (by decide) ?_
      exact E_iret dX11_cellar_55 rfl (hq)
    · refine E_iload_n dX11_cellar_5 rfl ?_
      refine E_bp (nI 8) dX11_cellar_6 (by decide) ?_
      refine E_icmp_gt (tgt := 25) dX11_cellar_8 (by decide) (fun c8 => ?_) (fun c8 => by first | exact absurd c8 (hx.elim (fun q => absurd q c2) id) | exact absurd (hx.elim (fun q => absurd q c2) id) c8)
      refine E_ic (nI 0) dX11_cellar_25 (by decide) ?_
      refine E_istore dX11_cellar_26 (Nat.le_of_ble_eq_true rfl) ?_
      refine E_iload dX11_cellar_28 rfl ?_
      refine E_zN_eq (a := 0) (tgt := 54) dX11_cellar_30 (by decide) (by decide) (fun c30 => ?_) (fun c30 => absurd c30 (by omega))
      refine E_ic (-1) dX11_cellar_54 (by decide) ?_
      exact E_iret dX11_cellar_55 rfl (hq)
  rcases i32_ix w 100 (by decide) with hw | ⟨fr, hfr, rfl⟩
  · have hno : ¬ gC σ (nI m) w v := fun ⟨_, _, z, _⟩ => rg_no hw (by decide) z
    rw [gd_f hno] at hQ
    rw [gd_f hno] at hQ
    have hq := hQ I J hX (fun _ _ _ => rfl) (fun _ _ _ => rfl)
    refine E_iload_n dX11_cellar_0 rfl ?_
    refine E_ic (nI 1) dX11_cellar_1 (by decide) ?_
    refine E_cN_lt (a := m) (b := 1) (tgt := 25) dX11_cellar_2 (by omega) (by decide) (by decide) (fun c2 => absurd c2 (by omega)) (fun c2 => ?_)
    refine E_iload_n dX11_cellar_5 rfl ?_
    refine E_bp (nI 8) dX11_cellar_6 (by decide) ?_
    refine E_cN_gt (a := m) (b := 8) (tgt := 25) dX11_cellar_8 (by omega) (by decide) (by decide) (fun c8 => absurd c8 (by omega)) (fun c8 => ?_)
    refine E_iload_n dX11_cellar_11 rfl ?_
    refine E_if_lt (tgt := 25) dX11_cellar_12 (by decide) (fun c12 => ?_) (fun c12 => ?_)
    · refine E_ic (nI 0) dX11_cellar_25 (by decide) ?_
      refine E_istore dX11_cellar_26 (Nat.le_of_ble_eq_true rfl) ?_
      refine E_iload dX11_cellar_28 rfl ?_
      refine E_zN_eq (a := 0) (tgt := 54) dX11_cellar_30 (by decide) (by decide) (fun c30 => ?_) (fun c30 => absurd c30 (by omega))
      refine E_ic (-1) dX11_cellar_54 (by decide) ?_
      exact E_iret dX11_cellar_55 rfl (hq)
    · refine E_iload_n dX11_cellar_15 rfl ?_
      refine E_bp (nI 100) dX11_cellar_16 (by decide) ?_
      refine E_icmp_ge (tgt := 25) dX11_cellar_18 (by decide) (fun c18 => ?_) (fun c18 => by first | exact absurd c18 (hw.elim (fun q => absurd q c12) id) | exact absurd (hw.elim (fun q => absurd q c12) id) c18)
      refine E_ic (nI 0) dX11_cellar_25 (by decide) ?_
      refine E_istore dX11_cellar_26 (Nat.le_of_ble_eq_true rfl) ?_
      refine E_iload dX11_cellar_28 rfl ?_
      refine E_zN_eq (a := 0) (tgt := 54) dX11_cellar_30 (by decide) (by decide) (fun c30 => ?_) (fun c30 => absurd c30 (by omega))
      refine E_ic (-1) dX11_cellar_54 (by decide) ?_
      exact E_iret dX11_cellar_55 rfl (hq)
  by_cases hp : plS v m
  · have hg : 2 * m ≤ σ 9 0 0 → gC σ (nI m) (nI fr) v := fun h => ⟨m, ⟨m1, m2, rfl, h⟩, rg_of (by omega), hp⟩
    have hng : ¬ 2 * m ≤ σ 9 0 0 → ¬ gC σ (nI m) (nI fr) v := fun h ⟨m', ⟨a1, a2, a3, a4⟩, _⟩ => h (by have := (nI_eq (by omega) (by omega)).mp a3; omega)
    rw [nI_clamp (n := m) (by omega), nI_clamp (n := fr) (by omega)] at hQ
    have hp0 := hp
    rcases hp0 with rfl | ⟨k, hk, rfl⟩
    · skip
      refine E_iload_n dX11_cellar_0 rfl ?_
      refine E_ic (nI 1) dX11_cellar_1 (by decide) ?_
      refine E_cN_lt (a := m) (b := 1) (tgt := 25) dX11_cellar_2 (by omega) (by decide) (by decide) (fun c2 => absurd c2 (by omega)) (fun c2 => ?_)
      refine E_iload_n dX11_cellar_5 rfl ?_
      refine E_bp (nI 8) dX11_cellar_6 (by decide) ?_
      refine E_cN_gt (a := m) (b := 8) (tgt := 25) dX11_cellar_8 (by omega) (by decide) (by decide) (fun c8 => absurd c8 (by omega)) (fun c8 => ?_)
      refine E_iload_n dX11_cellar_11 rfl ?_
      refine E_zN_lt (a := fr) (tgt := 25) dX11_cellar_12 (by omega) (by decide) (fun c12 => c12.elim) (fun c12 => ?_)
      refine E_iload_n dX11_cellar_15 rfl ?_
      refine E_bp (nI 100) dX11_cellar_16 (by decide) ?_
      refine E_cN_ge (a := fr) (b := 100) (tgt := 25) dX11_cellar_18 (by omega) (by decide) (by decide) (fun c18 => absurd c18 (by omega)) (fun c18 => ?_)
      refine E_ic (nI 1) dX11_cellar_21 (by decide) ?_
      refine E_goto (tgt := 26) dX11_cellar_22 (by decide) ?_
      refine E_istore dX11_cellar_26 (Nat.le_of_ble_eq_true rfl) ?_
      refine E_iload dX11_cellar_28 rfl ?_
      refine E_zN_eq (a := 1) (tgt := 54) dX11_cellar_30 (by decide) (by decide) (fun c30 => absurd c30 (by omega)) (fun c30 => ?_)
      refine E_iload_n dX11_cellar_33 rfl ?_
      refine E_iload_n dX11_cellar_34 rfl ?_
      refine E_callS (As := [_, _]) (kc' := 0) (ks' := 0) (kc := 0) (ks := 0) dX11_cellar_35 ok_X11_isPlace w_X11_268 st_X11_isPlace rfl rfl rfl (Nat.le_of_ble_eq_true rfl) (Nat.le_of_ble_eq_true rfl) (Nat.le_refl _) (x_isPlace (fun z => ?_) (fun z => ?_))
      · skip
        refine E_zN_eq (a := 1) (tgt := 54) dX11_cellar_38 (by decide) (by decide) (fun c38 => absurd c38 (by omega)) (fun c38 => ?_)
        refine E_aload_n dX11_cellar_41 rfl ?_
        refine E_ic (nI 2) dX11_cellar_42 (by decide) ?_
        refine E_iload_n dX11_cellar_43 rfl ?_
        refine E_imul dX11_cellar_44 ?_
        refine E.top (pk_mul 2 m) ?_
        refine E_ic (nI 2) dX11_cellar_45 (by decide) ?_
        refine E_bp (nI 16) dX11_cellar_46 (by decide) ?_
        refine E_callV (As := [_, _, _]) (ci := 10) (kc' := 0) (ks' := 0) (kc := 0) (ks := 0) dX11_cellar_48 ok_X11_tapeHas w_X11_113 i_X11_tapeHas s_X11_tapeHas rfl (by decide) rfl (Nat.lt_of_lt_of_le (by decide) hN) rfl rfl rfl (Nat.le_of_ble_eq_true rfl) (Nat.le_of_ble_eq_true rfl) (Nat.le_refl _) (X_tapeHas (d := 899) (by decide) (by decide) hB hX (fun _ h1 h2 h3 e => ?_) (fun z => ?_))
        · have hm9 : 2 * m ≤ σ 9 0 0 := by have := (nI_eq (by omega) (by omega)).mp e; omega
          rw [gd_t (hg hm9)] at hQ
          rw [gd_t (hg hm9)] at hQ
          have hT : TX σ (up2 I 0 2 (nI 0)) := fun j hj => hX.2.2.1 j hj
          refine E_zN_ne (a := 1) (tgt := 56) dX11_cellar_51 (by decide) (by decide) (fun c51 => ?_) (fun c51 => absurd c51 (by omega))
          refine E_aload_n dX11_cellar_56 rfl ?_
          refine E_ic (nI 0) dX11_cellar_57 (by decide) ?_
          refine E_putI dX11_cellar_58 f_X11_19 rfl (Nat.lt_of_lt_of_le (by decide) hN) rfl ?_
          refine E_aload_n dX11_cellar_61 rfl ?_
          refine E_ic (nI 2) dX11_cellar_62 (by decide) ?_
          refine E_iload_n dX11_cellar_63 rfl ?_
          refine E_imul dX11_cellar_64 ?_
          refine E.top (pk_mul 2 m) ?_
          refine E_ic (nI 0) dX11_cellar_65 (by decide) ?_
          refine E_ic (nI 2) dX11_cellar_66 (by decide) ?_
          refine E_bp (nI 99) dX11_cellar_67 (by decide) ?_
          refine E_callV (As := [_, _, _, _]) (ci := 10) (kc' := 0) (ks' := 0) (kc := 0) (ks := 0) dX11_cellar_69 ok_X11_anyAbove w_X11_259 i_X11_anyAbove s_X11_anyAbove rfl (by decide) rfl (Nat.lt_of_lt_of_le (by decide) hN) rfl rfl rfl (Nat.le_of_ble_eq_true rfl) (Nat.le_of_ble_eq_true rfl) (Nat.le_refl _) (x_anyAbove (d := 899) (m := 2 * m) hB hN hR hT hm9 (by decide) (by decide) (by decide) (by decide) (fun z => ?_) (fun z => ?_))
          · have hbd : bdS σ m := by obtain ⟨q, z1, z2⟩ := z; rw [Nat.zero_add] at z1 z2; exact ⟨q, by omega, Or.inl z2⟩
            rw [gd_t hbd] at hQ
            have hq := hQ (up2 I 0 2 (nI 0)) J (u0_X hX) (fun a a1 _ => up2_o I 0 2 _ a (by omega)) (fun a a1 _ => up2_o I 0 2 _ a (by omega))
            refine E_zN_ne (a := 1) (tgt := 89) dX11_cellar_72 (by decide) (by decide) (fun c72 => ?_) (fun c72 => absurd c72 (by omega))
            refine E_bp (-3) dX11_cellar_89 (by decide) ?_
            exact E_iret dX11_cellar_91 rfl (by first | exact hq | (rw [if_pos rfl] at hq; exact hq))
          · have ok1 : ∀ k, k < m → σ 8 (2 * k) 0 ≤ 99 := fun k hk => by have := z k (by omega); rw [Nat.zero_add] at this; exact this
            refine E_zN_ne (a := 0) (tgt := 89) dX11_cellar_72 (by decide) (by decide) (fun c72 => absurd c72 (by omega)) (fun c72 => ?_)
            refine E_aload_n dX11_cellar_75 rfl ?_
            refine E_ic (nI 2) dX11_cellar_76 (by decide) ?_
            refine E_iload_n dX11_cellar_77 rfl ?_
            refine E_imul dX11_cellar_78 ?_
            refine E.top (pk_mul 2 m) ?_
            refine E_ic (nI 1) dX11_cellar_79 (by decide) ?_
            refine E_ic (nI 2) dX11_cellar_80 (by decide) ?_
            refine E_bp (nI 50) dX11_cellar_81 (by decide) ?_
            refine E_callV (As := [_, _, _, _]) (ci := 10) (kc' := 0) (ks' := 0) (kc := 0) (ks := 0) dX11_cellar_83 ok_X11_anyAbove w_X11_259 i_X11_anyAbove s_X11_anyAbove rfl (by decide) rfl (Nat.lt_of_lt_of_le (by decide) hN) rfl rfl rfl (Nat.le_of_ble_eq_true rfl) (Nat.le_of_ble_eq_true rfl) (Nat.le_refl _) (x_anyAbove (d := 899) (m := 2 * m) hB hN hR hT hm9 (by decide) (by decide) (by decide) (by decide) (fun z => ?_) (fun z => ?_))
            · have hbd : bdS σ m := by obtain ⟨q, z1, z2⟩ := z; rw [Nat.add_comm] at z1 z2; exact ⟨q, by omega, Or.inr z2⟩
              rw [gd_t hbd] at hQ
              have hq := hQ (up2 I 0 2 (nI 0)) J (u0_X hX) (fun a a1 _ => up2_o I 0 2 _ a (by omega)) (fun a a1 _ => up2_o I 0 2 _ a (by omega))
              refine E_zN_eq (a := 1) (tgt := 92) dX11_cellar_86 (by decide) (by decide) (fun c86 => absurd c86 (by omega)) (fun c86 => ?_)
              refine E_bp (-3) dX11_cellar_89 (by decide) ?_
              exact E_iret dX11_cellar_91 rfl (by first | exact hq | (rw [if_pos rfl] at hq; exact hq))
            · have ok : ∀ k, k < m → σ 8 (2 * k) 0 ≤ 99 ∧ σ 8 (2 * k + 1) 0 ≤ 50 := fun k hk => ⟨ok1 k hk, by have := z k (by omega); rw [Nat.add_comm] at this; exact this⟩
              rw [gd_f (fun ⟨k, k1, k2⟩ => by have := ok k k1; omega)] at hQ
              have far : ∀ a, (a < 43 ∨ 46 < a) → (put (up2 (put (put (up2 (up2 I 0 2 (nI 0)) 43 4 (nI fr)) 46 m (fun i => nI (σ 8 (2 * i + 1) 0))) 45 m (fun i => nI (σ 8 (2 * i) 0))) 43 1 (nI m)) 44 256 (tbI (up2 (put (put (up2 (up2 I 0 2 (nI 0)) 43 4 (nI fr)) 46 m (fun i => nI (σ 8 (2 * i + 1) 0))) 45 m (fun i => nI (σ 8 (2 * i) 0))) 43 1 (nI m)) 44 (clS σ fr) m (2 ^ m - 1 - 0))) a = (up2 I 0 2 (nI 0)) a := fun a ha => by rw [put_o _ 44 256 _ (by omega), up2_o _ 43 1 _ a (by omega), put_o _ 45 _ _ (by omega), put_o _ 46 _ _ (by omega), up2_o _ 43 4 _ a (by omega)]
              have far2 : ∀ a, 3 ≤ a → (a < 43 ∨ 46 < a) → (put (up2 (put (put (up2 (up2 I 0 2 (nI 0)) 43 4 (nI fr)) 46 m (fun i => nI (σ 8 (2 * i + 1) 0))) 45 m (fun i => nI (σ 8 (2 * i) 0))) 43 1 (nI m)) 44 256 (tbI (up2 (put (put (up2 (up2 I 0 2 (nI 0)) 43 4 (nI fr)) 46 m (fun i => nI (σ 8 (2 * i + 1) 0))) 45 m (fun i => nI (σ 8 (2 * i) 0))) 43 1 (nI m)) 44 (clS σ fr) m (2 ^ m - 1 - 0))) a = I a := fun a h3 ha => (far a ha).trans (up2_o I 0 2 _ a (by omega))
              have hq := hQ (put (up2 (put (put (up2 (up2 I 0 2 (nI 0)) 43 4 (nI fr)) 46 m (fun i => nI (σ 8 (2 * i + 1) 0))) 45 m (fun i => nI (σ 8 (2 * i) 0))) 43 1 (nI m)) 44 256 (tbI (up2 (put (put (up2 (up2 I 0 2 (nI 0)) 43 4 (nI fr)) 46 m (fun i => nI (σ 8 (2 * i + 1) 0))) 45 m (fun i => nI (σ 8 (2 * i) 0))) 43 1 (nI m)) 44 (clS σ fr) m (2 ^ m - 1 - 0))) J ((u0_X hX).congr (fun a _ _ => far a (by omega)) (far 0 (by omega)) (far 2 (by omega))) (fun a a1 a2 => far2 a a1 (by omega)) (fun a a1 a2 => far2 a (by omega) (by omega))
              have hcb := clS_le (m := m) (show fr ≤ 99 by omega) ok
              have hc : ∀ (I2 : IM) {Q2 : PQ} {dd : Nat}, (∀ x, x ≠ 44 → I2 x = (up2 (put (put (up2 (up2 I 0 2 (nI 0)) 43 4 (nI fr)) 46 m (fun i => nI (σ 8 (2 * i + 1) 0))) 45 m (fun i => nI (σ 8 (2 * i) 0))) 43 1 (nI m)) x) → ∀ s w : Nat, s < 2 ^ m → w < m → s / 2 ^ w % 2 = 0 → Q2 (some (.int (nI (clS σ fr s w)))) n I2 J R → E g mX1_cost (dd + 1) 0 0 0 (ent 4 [.ref 43, .int (nI s), .int (nI w)]) [] n I2 J R Q2 := fun I2 Q2 dd e s w hs hw hf h => by
                refine x_costC hN hR (m := m) (fr := fr) ?_ (by omega) (fun i hi => ⟨?_, ?_⟩) m2 ok hs hw h
                · rw [e 43 (by decide), up2_k _ _ (by decide), put_o _ 45 _ _ (by decide), put_o _ 46 _ _ (by decide)]
                  exact up2_s _ _ _ _
                · rw [e 45 (by decide), up2_o _ 43 1 _ 45 (by decide)]
                  exact put_r _ _ hi
                · rw [e 46 (by decide), up2_o _ 43 1 _ 46 (by decide), put_o _ 45 _ _ (by decide)]
                  exact put_r _ _ hi
              have hcf : ∀ {Q2 : PQ} {dd : Nat} (s w : Nat), s < 2 ^ m → w < m → s / 2 ^ w % 2 = 0 → Q2 (some (.int (nI (clS σ fr s w)))) n (put (up2 (put (put (up2 (up2 I 0 2 (nI 0)) 43 4 (nI fr)) 46 m (fun i => nI (σ 8 (2 * i + 1) 0))) 45 m (fun i => nI (σ 8 (2 * i) 0))) 43 1 (nI m)) 44 256 (tbI (up2 (put (put (up2 (up2 I 0 2 (nI 0)) 43 4 (nI fr)) 46 m (fun i => nI (σ 8 (2 * i + 1) 0))) 45 m (fun i => nI (σ 8 (2 * i) 0))) 43 1 (nI m)) 44 (clS σ fr) m (2 ^ m - 1 - 0))) J R → E g mX1_cost (dd + 1) 0 0 0 (ent 4 [.ref 43, .int (nI s), .int (nI w)]) [] n (put (up2 (put (put (up2 (up2 I 0 2 (nI 0)) 43 4 (nI fr)) 46 m (fun i => nI (σ 8 (2 * i + 1) 0))) 45 m (fun i => nI (σ 8 (2 * i) 0))) 43 1 (nI m)) 44 256 (tbI (up2 (put (put (up2 (up2 I 0 2 (nI 0)) 43 4 (nI fr)) 46 m (fun i => nI (σ 8 (2 * i + 1) 0))) 45 m (fun i => nI (σ 8 (2 * i) 0))) 43 1 (nI m)) 44 (clS σ fr) m (2 ^ m - 1 - 0))) J R Q2 := fun s w hs hw hf h => hc _ (fun x hx => put_o _ 44 256 _ hx) s w hs hw hf h
              have hrr : ∀ y, y < 2 ^ m → (put (up2 (put (put (up2 (up2 I 0 2 (nI 0)) 43 4 (nI fr)) 46 m (fun i => nI (σ 8 (2 * i + 1) 0))) 45 m (fun i => nI (σ 8 (2 * i) 0))) 43 1 (nI m)) 44 256 (tbI (up2 (put (put (up2 (up2 I 0 2 (nI 0)) 43 4 (nI fr)) 46 m (fun i => nI (σ 8 (2 * i + 1) 0))) 45 m (fun i => nI (σ 8 (2 * i) 0))) 43 1 (nI m)) 44 (clS σ fr) m (2 ^ m - 1 - 0))) 44 y = nI (rtS (clS σ fr) m y) := fun y hy => tbI_r m2 (Nat.zero_le _) (Nat.zero_le _) hy
              have hmm : (put (up2 (put (put (up2 (up2 I 0 2 (nI 0)) 43 4 (nI fr)) 46 m (fun i => nI (σ 8 (2 * i + 1) 0))) 45 m (fun i => nI (σ 8 (2 * i) 0))) 43 1 (nI m)) 44 256 (tbI (up2 (put (put (up2 (up2 I 0 2 (nI 0)) 43 4 (nI fr)) 46 m (fun i => nI (σ 8 (2 * i + 1) 0))) 45 m (fun i => nI (σ 8 (2 * i) 0))) 43 1 (nI m)) 44 (clS σ fr) m (2 ^ m - 1 - 0))) 43 1 = nI m := by rw [put_o _ 44 256 _ (by decide)]; exact up2_s _ _ _ _
              have hbb : ∀ s w, s < 2 ^ m → w < m → s / 2 ^ w % 2 = 0 → clS σ fr s w + rtS (clS σ fr) m (s ||| 2 ^ w) < 2 ^ 30 := fun s w hs hw hf => by have := tb_price m2 hcb hs hw hf (Nat.zero_le (s + 1)); exact Nat.lt_of_le_of_lt this (by decide)
              have hpp : ∀ q, q < m → (pthS (clS σ fr) (rtS (clS σ fr) m) m q).1 < 2 ^ m ∧ (bnS (clS σ fr) (rtS (clS σ fr) m) (pthS (clS σ fr) (rtS (clS σ fr) m) m q).1 m).2 < m := fun q hq => by
                obtain ⟨a1, a2, a3⟩ := pth_ok m2 hcb (by decide) q (by omega)
                exact ⟨a1, (rt_fd m2 hcb (by decide) (a3 hq)).1⟩
              refine E_zN_eq (a := 0) (tgt := 92) dX11_cellar_86 (by decide) (by decide) (fun c86 => ?_) (fun c86 => absurd c86 (by omega))
              refine E_aload_n dX11_cellar_92 rfl ?_
              refine E_getR dX11_cellar_93 f_X11_68 rfl (Nat.lt_of_lt_of_le (by decide) hN) rfl (hR _ _ _ rfl) ?_
              refine E_aload_n dX11_cellar_96 rfl ?_
              refine E_getR dX11_cellar_97 f_X11_15 rfl (Nat.lt_of_lt_of_le (by decide) hN) rfl (hR _ _ _ rfl) ?_
              refine E_iload_n dX11_cellar_100 rfl ?_
              refine E_iload_n dX11_cellar_101 rfl ?_
              refine E_callV (As := [_, _, _]) (ci := 1) (kc' := 0) (ks' := 0) (kc := 0) (ks := 0) dX11_cellar_102 ok_X1_store w_X11_297 i_X1_store s_X1_store rfl (by decide) rfl (Nat.lt_of_lt_of_le (by decide) hN) rfl rfl rfl (Nat.le_of_ble_eq_true rfl) (Nat.le_of_ble_eq_true rfl) (Nat.le_refl _) (x_store (d := 899) hN hR hT m2 hm9 b9 ?_)
              refine E_aload_n dX11_cellar_105 rfl ?_
              refine E_getR dX11_cellar_106 f_X11_68 rfl (Nat.lt_of_lt_of_le (by decide) hN) rfl (hR _ _ _ rfl) ?_
              refine E_iload_n dX11_cellar_109 rfl ?_
              refine E_callU (As := [_]) (kc' := 0) (ks' := 0) (kc := 0) (ks := 0) (ci := 1) (x := ⟨RX1, "reckon", "(I)V"⟩) (C := RX1) (owner := RX5) dX11_cellar_110 ok_X5_reckon (by decide +kernel) (by decide) w_X11_301 i_X5_reckon s2_X1_X1_reckon sm_X1_reckon dc_X5_reckon rfl (by decide) rfl (by first | assumption | omega) rfl rfl rfl (Nat.le_of_ble_eq_true rfl) (Nat.le_of_ble_eq_true rfl) (Nat.le_refl _) (x1_reckon (d := 896) hN hR m2 hcb (by decide) (fun I2 Q2 e s w hs hw hf h => hc I2 e s w hs hw hf h) ?_)
              refine E_iload_n dX11_cellar_113 rfl ?_
              refine E_bp (nI 100) dX11_cellar_114 (by decide) ?_
              refine E_cN_ne (a := 100) (b := 100) (tgt := 129) dX11_cellar_116 (by decide) (by decide) (by decide) (fun c116 => absurd c116 (by omega)) (fun c116 => ?_)
              refine E_aload_n dX11_cellar_119 rfl ?_
              refine E_getR dX11_cellar_120 f_X11_68 rfl (Nat.lt_of_lt_of_le (by decide) hN) rfl (hR _ _ _ rfl) ?_
              refine E_callU (As := []) (kc' := 0) (ks' := 0) (kc := 0) (ks := 0) (ci := 1) (x := ⟨RX1, "price", "()I"⟩) (C := RX1) (owner := RX5) dX11_cellar_123 ok_X5_price (by decide +kernel) (by decide) w_X11_302 i_X5_price s2_X1_X1_price sm_X1_price dc_X5_price rfl (by decide) rfl (by first | assumption | omega) rfl rfl rfl (Nat.le_of_ble_eq_true rfl) (Nat.le_of_ble_eq_true rfl) (Nat.le_refl _) (x1_price (d := 899) hN hR (hrr 0 (Nat.two_pow_pos m)) ?_)
              refine E_goto (tgt := 137) dX11_cellar_126 (by decide) ?_
              exact E_iret dX11_cellar_137 rfl (by first | exact hq | (rw [if_pos rfl] at hq; exact hq))
        · rw [gd_f (hng (fun h => z (tp_of (by omega) (by omega) h)))] at hQ
          rw [gd_f (hng (fun h => z (tp_of (by omega) (by omega) h)))] at hQ
          have hq := hQ I J hX (fun _ _ _ => rfl) (fun _ _ _ => rfl)
          refine E_zN_ne (a := 0) (tgt := 56) dX11_cellar_51 (by decide) (by decide) (fun c51 => absurd c51 (by omega)) (fun c51 => ?_)
          refine E_ic (-1) dX11_cellar_54 (by decide) ?_
          exact E_iret dX11_cellar_55 rfl (by first | exact hq | (rw [if_pos rfl] at hq; exact hq))
      · skip
        exact absurd ((pl_iff (by omega)).mpr hp) z
    · skip
      refine E_iload_n dX11_cellar_0 rfl ?_
      refine E_ic (nI 1) dX11_cellar_1 (by decide) ?_
      refine E_cN_lt (a := m) (b := 1) (tgt := 25) dX11_cellar_2 (by omega) (by decide) (by decide) (fun c2 => absurd c2 (by omega)) (fun c2 => ?_)
      refine E_iload_n dX11_cellar_5 rfl ?_
      refine E_bp (nI 8) dX11_cellar_6 (by decide) ?_
      refine E_cN_gt (a := m) (b := 8) (tgt := 25) dX11_cellar_8 (by omega) (by decide) (by decide) (fun c8 => absurd c8 (by omega)) (fun c8 => ?_)
      refine E_iload_n dX11_cellar_11 rfl ?_
      refine E_zN_lt (a := fr) (tgt := 25) dX11_cellar_12 (by omega) (by decide) (fun c12 => c12.elim) (fun c12 => ?_)
      refine E_iload_n dX11_cellar_15 rfl ?_
      refine E_bp (nI 100) dX11_cellar_16 (by decide) ?_
      refine E_cN_ge (a := fr) (b := 100) (tgt := 25) dX11_cellar_18 (by omega) (by decide) (by decide) (fun c18 => absurd c18 (by omega)) (fun c18 => ?_)
      refine E_ic (nI 1) dX11_cellar_21 (by decide) ?_
      refine E_goto (tgt := 26) dX11_cellar_22 (by decide) ?_
      refine E_istore dX11_cellar_26 (Nat.le_of_ble_eq_true rfl) ?_
      refine E_iload dX11_cellar_28 rfl ?_
      refine E_zN_eq (a := 1) (tgt := 54) dX11_cellar_30 (by decide) (by decide) (fun c30 => absurd c30 (by omega)) (fun c30 => ?_)
      refine E_iload_n dX11_cellar_33 rfl ?_
      refine E_iload_n dX11_cellar_34 rfl ?_
      refine E_callS (As := [_, _]) (kc' := 0) (ks' := 0) (kc := 0) (ks := 0) dX11_cellar_35 ok_X11_isPlace w_X11_268 st_X11_isPlace rfl rfl rfl (Nat.le_of_ble_eq_true rfl) (Nat.le_of_ble_eq_true rfl) (Nat.le_refl _) (x_isPlace (fun z => ?_) (fun z => ?_))
      · skip
        refine E_zN_eq (a := 1) (tgt := 54) dX11_cellar_38 (by decide) (by decide) (fun c38 => absurd c38 (by omega)) (fun c38 => ?_)
        refine E_aload_n dX11_cellar_41 rfl ?_
        refine E_ic (nI 2) dX11_cellar_42 (by decide) ?_
        refine E_iload_n dX11_cellar_43 rfl ?_
        refine E_imul dX11_cellar_44 ?_
        refine E.top (pk_mul 2 m) ?_
        refine E_ic (nI 2) dX11_cellar_45 (by decide) ?_
        refine E_bp (nI 16) dX11_cellar_46 (by decide) ?_
        refine E_callV (As := [_, _, _]) (ci := 10) (kc' := 0) (ks' := 0) (kc := 0) (ks := 0) dX11_cellar_48 ok_X11_tapeHas w_X11_113 i_X11_tapeHas s_X11_tapeHas rfl (by decide) rfl (Nat.lt_of_lt_of_le (by decide) hN) rfl rfl rfl (Nat.le_of_ble_eq_true rfl) (Nat.le_of_ble_eq_true rfl) (Nat.le_refl _) (X_tapeHas (d := 899) (by decide) (by decide) hB hX (fun _ h1 h2 h3 e => ?_) (fun z => ?_))
        · have hm9 : 2 * m ≤ σ 9 0 0 := by have := (nI_eq (by omega) (by omega)).mp e; omega
          rw [gd_t (hg hm9)] at hQ
          rw [gd_t (hg hm9)] at hQ
          have hT : TX σ (up2 I 0 2 (nI 0)) := fun j hj => hX.2.2.1 j hj
          refine E_zN_ne (a := 1) (tgt := 56) dX11_cellar_51 (by decide) (by decide) (fun c51 => ?_) (fun c51 => absurd c51 (by omega))
          refine E_aload_n dX11_cellar_56 rfl ?_
          refine E_ic (nI 0) dX11_cellar_57 (by decide) ?_
          refine E_putI dX11_cellar_58 f_X11_19 rfl (Nat.lt_of_lt_of_le (by decide) hN) rfl ?_
          refine E_aload_n dX11_cellar_61 rfl ?_
          refine E_ic (nI 2) dX11_cellar_62 (by decide) ?_
          refine E_iload_n dX11_cellar_63 rfl ?_
          refine E_imul dX11_cellar_64 ?_
          refine E.top (pk_mul 2 m) ?_
          refine E_ic (nI 0) dX11_cellar_65 (by decide) ?_
          refine E_ic (nI 2) dX11_cellar_66 (by decide) ?_
          refine E_bp (nI 99) dX11_cellar_67 (by decide) ?_
          refine E_callV (As := [_, _, _, _]) (ci := 10) (kc' := 0) (ks' := 0) (kc := 0) (ks := 0) dX11_cellar_69 ok_X11_anyAbove w_X11_259 i_X11_anyAbove s_X11_anyAbove rfl (by decide) rfl (Nat.lt_of_lt_of_le (by decide) hN) rfl rfl rfl (Nat.le_of_ble_eq_true rfl) (Nat.le_of_ble_eq_true rfl) (Nat.le_refl _) (x_anyAbove (d := 899) (m := 2 * m) hB hN hR hT hm9 (by decide) (by decide) (by decide) (by decide) (fun z => ?_) (fun z => ?_))
          · have hbd : bdS σ m := by obtain ⟨q, z1, z2⟩ := z; rw [Nat.zero_add] at z1 z2; exact ⟨q, by omega, Or.inl z2⟩
            rw [gd_t hbd] at hQ
            have hq := hQ (up2 I 0 2 (nI 0)) J (u0_X hX) (fun a a1 _ => up2_o I 0 2 _ a (by omega)) (fun a a1 _ => up2_o I 0 2 _ a (by omega))
            refine E_zN_ne (a := 1) (tgt := 89) dX11_cellar_72 (by decide) (by decide) (fun c72 => ?_) (fun c72 => absurd c72 (by omega))
            refine E_bp (-3) dX11_cellar_89 (by decide) ?_
            exact E_iret dX11_cellar_91 rfl (by first | exact hq | (rw [if_neg (fun z => by have := (nI_eq (by omega) (by decide)).mp z; omega), nI_clamp (n := k) (by omega)] at hq; exact hq) | exact absurd c116 (by omega))
          · have ok1 : ∀ k, k < m → σ 8 (2 * k) 0 ≤ 99 := fun k hk => by have := z k (by omega); rw [Nat.zero_add] at this; exact this
            refine E_zN_ne (a := 0) (tgt := 89) dX11_cellar_72 (by decide) (by decide) (fun c72 => absurd c72 (by omega)) (fun c72 => ?_)
            refine E_aload_n dX11_cellar_75 rfl ?_
            refine E_ic (nI 2) dX11_cellar_76 (by decide) ?_
            refine E_iload_n dX11_cellar_77 rfl ?_
            refine E_imul dX11_cellar_78 ?_
            refine E.top (pk_mul 2 m) ?_
            refine E_ic (nI 1) dX11_cellar_79 (by decide) ?_
            refine E_ic (nI 2) dX11_cellar_80 (by decide) ?_
            refine E_bp (nI 50) dX11_cellar_81 (by decide) ?_
            refine E_callV (As := [_, _, _, _]) (ci := 10) (kc' := 0) (ks' := 0) (kc := 0) (ks := 0) dX11_cellar_83 ok_X11_anyAbove w_X11_259 i_X11_anyAbove s_X11_anyAbove rfl (by decide) rfl (Nat.lt_of_lt_of_le (by decide) hN) rfl rfl rfl (Nat.le_of_ble_eq_true rfl) (Nat.le_of_ble_eq_true rfl) (Nat.le_refl _) (x_anyAbove (d := 899) (m := 2 * m) hB hN hR hT hm9 (by decide) (by decide) (by decide) (by decide) (fun z => ?_) (fun z => ?_))
            · have hbd : bdS σ m := by obtain ⟨q, z1, z2⟩ := z; rw [Nat.add_comm] at z1 z2; exact ⟨q, by omega, Or.inr z2⟩
              rw [gd_t hbd] at hQ
              have hq := hQ (up2 I 0 2 (nI 0)) J (u0_X hX) (fun a a1 _ => up2_o I 0 2 _ a (by omega)) (fun a a1 _ => up2_o I 0 2 _ a (by omega))
              refine E_zN_eq (a := 1) (tgt := 92) dX11_cellar_86 (by decide) (by decide) (fun c86 => absurd c86 (by omega)) (fun c86 => ?_)
              refine E_bp (-3) dX11_cellar_89 (by decide) ?_
              exact E_iret dX11_cellar_91 rfl (by first | exact hq | (rw [if_neg (fun z => by have := (nI_eq (by omega) (by decide)).mp z; omega), nI_clamp (n := k) (by omega)] at hq; exact hq) | exact absurd c116 (by omega))
            · have ok : ∀ k, k < m → σ 8 (2 * k) 0 ≤ 99 ∧ σ 8 (2 * k + 1) 0 ≤ 50 := fun k hk => ⟨ok1 k hk, by have := z k (by omega); rw [Nat.add_comm] at this; exact this⟩
              rw [gd_f (fun ⟨k, k1, k2⟩ => by have := ok k k1; omega)] at hQ
              have far : ∀ a, (a < 43 ∨ 46 < a) → (put (up2 (put (put (up2 (up2 I 0 2 (nI 0)) 43 4 (nI fr)) 46 m (fun i => nI (σ 8 (2 * i + 1) 0))) 45 m (fun i => nI (σ 8 (2 * i) 0))) 43 1 (nI m)) 44 256 (tbI (up2 (put (put (up2 (up2 I 0 2 (nI 0)) 43 4 (nI fr)) 46 m (fun i => nI (σ 8 (2 * i + 1) 0))) 45 m (fun i => nI (σ 8 (2 * i) 0))) 43 1 (nI m)) 44 (clS σ fr) m (2 ^ m - 1 - 0))) a = (up2 I 0 2 (nI 0)) a := fun a ha => by rw [put_o _ 44 256 _ (by omega), up2_o _ 43 1 _ a (by omega), put_o _ 45 _ _ (by omega), put_o _ 46 _ _ (by omega), up2_o _ 43 4 _ a (by omega)]
              have far2 : ∀ a, 3 ≤ a → (a < 43 ∨ 46 < a) → (put (up2 (put (put (up2 (up2 I 0 2 (nI 0)) 43 4 (nI fr)) 46 m (fun i => nI (σ 8 (2 * i + 1) 0))) 45 m (fun i => nI (σ 8 (2 * i) 0))) 43 1 (nI m)) 44 256 (tbI (up2 (put (put (up2 (up2 I 0 2 (nI 0)) 43 4 (nI fr)) 46 m (fun i => nI (σ 8 (2 * i + 1) 0))) 45 m (fun i => nI (σ 8 (2 * i) 0))) 43 1 (nI m)) 44 (clS σ fr) m (2 ^ m - 1 - 0))) a = I a := fun a h3 ha => (far a ha).trans (up2_o I 0 2 _ a (by omega))
              have hq := hQ (put (up2 (put (put (up2 (up2 I 0 2 (nI 0)) 43 4 (nI fr)) 46 m (fun i => nI (σ 8 (2 * i + 1) 0))) 45 m (fun i => nI (σ 8 (2 * i) 0))) 43 1 (nI m)) 44 256 (tbI (up2 (put (put (up2 (up2 I 0 2 (nI 0)) 43 4 (nI fr)) 46 m (fun i => nI (σ 8 (2 * i + 1) 0))) 45 m (fun i => nI (σ 8 (2 * i) 0))) 43 1 (nI m)) 44 (clS σ fr) m (2 ^ m - 1 - 0))) J ((u0_X hX).congr (fun a _ _ => far a (by omega)) (far 0 (by omega)) (far 2 (by omega))) (fun a a1 a2 => far2 a a1 (by omega)) (fun a a1 a2 => far2 a (by omega) (by omega))
              have hcb := clS_le (m := m) (show fr ≤ 99 by omega) ok
              have hc : ∀ (I2 : IM) {Q2 : PQ} {dd : Nat}, (∀ x, x ≠ 44 → I2 x = (up2 (put (put (up2 (up2 I 0 2 (nI 0)) 43 4 (nI fr)) 46 m (fun i => nI (σ 8 (2 * i + 1) 0))) 45 m (fun i => nI (σ 8 (2 * i) 0))) 43 1 (nI m)) x) → ∀ s w : Nat, s < 2 ^ m → w < m → s / 2 ^ w % 2 = 0 → Q2 (some (.int (nI (clS σ fr s w)))) n I2 J R → E g mX1_cost (dd + 1) 0 0 0 (ent 4 [.ref 43, .int (nI s), .int (nI w)]) [] n I2 J R Q2 := fun I2 Q2 dd e s w hs hw hf h => by
                refine x_costC hN hR (m := m) (fr := fr) ?_ (by omega) (fun i hi => ⟨?_, ?_⟩) m2 ok hs hw h
                · rw [e 43 (by decide), up2_k _ _ (by decide), put_o _ 45 _ _ (by decide), put_o _ 46 _ _ (by decide)]
                  exact up2_s _ _ _ _
                · rw [e 45 (by decide), up2_o _ 43 1 _ 45 (by decide)]
                  exact put_r _ _ hi
                · rw [e 46 (by decide), up2_o _ 43 1 _ 46 (by decide), put_o _ 45 _ _ (by decide)]
                  exact put_r _ _ hi
              have hcf : ∀ {Q2 : PQ} {dd : Nat} (s w : Nat), s < 2 ^ m → w < m → s / 2 ^ w % 2 = 0 → Q2 (some (.int (nI (clS σ fr s w)))) n (put (up2 (put (put (up2 (up2 I 0 2 (nI 0)) 43 4 (nI fr)) 46 m (fun i => nI (σ 8 (2 * i + 1) 0))) 45 m (fun i => nI (σ 8 (2 * i) 0))) 43 1 (nI m)) 44 256 (tbI (up2 (put (put (up2 (up2 I 0 2 (nI 0)) 43 4 (nI fr)) 46 m (fun i => nI (σ 8 (2 * i + 1) 0))) 45 m (fun i => nI (σ 8 (2 * i) 0))) 43 1 (nI m)) 44 (clS σ fr) m (2 ^ m - 1 - 0))) J R → E g mX1_cost (dd + 1) 0 0 0 (ent 4 [.ref 43, .int (nI s), .int (nI w)]) [] n (put (up2 (put (put (up2 (up2 I 0 2 (nI 0)) 43 4 (nI fr)) 46 m (fun i => nI (σ 8 (2 * i + 1) 0))) 45 m (fun i => nI (σ 8 (2 * i) 0))) 43 1 (nI m)) 44 256 (tbI (up2 (put (put (up2 (up2 I 0 2 (nI 0)) 43 4 (nI fr)) 46 m (fun i => nI (σ 8 (2 * i + 1) 0))) 45 m (fun i => nI (σ 8 (2 * i) 0))) 43 1 (nI m)) 44 (clS σ fr) m (2 ^ m - 1 - 0))) J R Q2 := fun s w hs hw hf h => hc _ (fun x hx => put_o _ 44 256 _ hx) s w hs hw hf h
              have hrr : ∀ y, y < 2 ^ m → (put (up2 (put (put (up2 (up2 I 0 2 (nI 0)) 43 4 (nI fr)) 46 m (fun i => nI (σ 8 (2 * i + 1) 0))) 45 m (fun i => nI (σ 8 (2 * i) 0))) 43 1 (nI m)) 44 256 (tbI (up2 (put (put (up2 (up2 I 0 2 (nI 0)) 43 4 (nI fr)) 46 m (fun i => nI (σ 8 (2 * i + 1) 0))) 45 m (fun i => nI (σ 8 (2 * i) 0))) 43 1 (nI m)) 44 (clS σ fr) m (2 ^ m - 1 - 0))) 44 y = nI (rtS (clS σ fr) m y) := fun y hy => tbI_r m2 (Nat.zero_le _) (Nat.zero_le _) hy
              have hmm : (put (up2 (put (put (up2 (up2 I 0 2 (nI 0)) 43 4 (nI fr)) 46 m (fun i => nI (σ 8 (2 * i + 1) 0))) 45 m (fun i => nI (σ 8 (2 * i) 0))) 43 1 (nI m)) 44 256 (tbI (up2 (put (put (up2 (up2 I 0 2 (nI 0)) 43 4 (nI fr)) 46 m (fun i => nI (σ 8 (2 * i + 1) 0))) 45 m (fun i => nI (σ 8 (2 * i) 0))) 43 1 (nI m)) 44 (clS σ fr) m (2 ^ m - 1 - 0))) 43 1 = nI m := by rw [put_o _ 44 256 _ (by decide)]; exact up2_s _ _ _ _
              have hbb : ∀ s w, s < 2 ^ m → w < m → s / 2 ^ w % 2 = 0 → clS σ fr s w + rtS (clS σ fr) m (s ||| 2 ^ w) < 2 ^ 30 := fun s w hs hw hf => by have := tb_price m2 hcb hs hw hf (Nat.zero_le (s + 1)); exact Nat.lt_of_le_of_lt this (by decide)
              have hpp : ∀ q, q < m → (pthS (clS σ fr) (rtS (clS σ fr) m) m q).1 < 2 ^ m ∧ (bnS (clS σ fr) (rtS (clS σ fr) m) (pthS (clS σ fr) (rtS (clS σ fr) m) m q).1 m).2 < m := fun q hq => by
                obtain ⟨a1, a2, a3⟩ := pth_ok m2 hcb (by decide) q (by omega)
                exact ⟨a1, (rt_fd m2 hcb (by decide) (a3 hq)).1⟩
              refine E_zN_eq (a := 0) (tgt := 92) dX11_cellar_86 (by decide) (by decide) (fun c86 => ?_) (fun c86 => absurd c86 (by omega))
              refine E_aload_n dX11_cellar_92 rfl ?_
              refine E_getR dX11_cellar_93 f_X11_68 rfl (Nat.lt_of_lt_of_le (by decide) hN) rfl (hR _ _ _ rfl) ?_
              refine E_aload_n dX11_cellar_96 rfl ?_
              refine E_getR dX11_cellar_97 f_X11_15 rfl (Nat.lt_of_lt_of_le (by decide) hN) rfl (hR _ _ _ rfl) ?_
              refine E_iload_n dX11_cellar_100 rfl ?_
              refine E_iload_n dX11_cellar_101 rfl ?_
              refine E_callV (As := [_, _, _]) (ci := 1) (kc' := 0) (ks' := 0) (kc := 0) (ks := 0) dX11_cellar_102 ok_X1_store w_X11_297 i_X1_store s_X1_store rfl (by decide) rfl (Nat.lt_of_lt_of_le (by decide) hN) rfl rfl rfl (Nat.le_of_ble_eq_true rfl) (Nat.le_of_ble_eq_true rfl) (Nat.le_refl _) (x_store (d := 899) hN hR hT m2 hm9 b9 ?_)
              refine E_aload_n dX11_cellar_105 rfl ?_
              refine E_getR dX11_cellar_106 f_X11_68 rfl (Nat.lt_of_lt_of_le (by decide) hN) rfl (hR _ _ _ rfl) ?_
              refine E_iload_n dX11_cellar_109 rfl ?_
              refine E_callU (As := [_]) (kc' := 0) (ks' := 0) (kc := 0) (ks := 0) (ci := 1) (x := ⟨RX1, "reckon", "(I)V"⟩) (C := RX1) (owner := RX5) dX11_cellar_110 ok_X5_reckon (by decide +kernel) (by decide) w_X11_301 i_X5_reckon s2_X1_X1_reckon sm_X1_reckon dc_X5_reckon rfl (by decide) rfl (by first | assumption | omega) rfl rfl rfl (Nat.le_of_ble_eq_true rfl) (Nat.le_of_ble_eq_true rfl) (Nat.le_refl _) (x1_reckon (d := 896) hN hR m2 hcb (by decide) (fun I2 Q2 e s w hs hw hf h => hc I2 e s w hs hw hf h) ?_)
              refine E_iload_n dX11_cellar_113 rfl ?_
              refine E_bp (nI 100) dX11_cellar_114 (by decide) ?_
              refine E_cN_ne (a := k) (b := 100) (tgt := 129) dX11_cellar_116 (by omega) (by decide) (by decide) (fun c116 => ?_) (fun c116 => ?_)
              · refine E_aload_n dX11_cellar_129 rfl ?_
                refine E_getR dX11_cellar_130 f_X11_68 rfl (Nat.lt_of_lt_of_le (by decide) hN) rfl (hR _ _ _ rfl) ?_
                refine E_iload_n dX11_cellar_133 rfl ?_
                refine E_callU (As := [_]) (kc' := 0) (ks' := 0) (kc := 0) (ks := 0) (ci := 1) (x := ⟨RX1, "standsAt", "(I)I"⟩) (C := RX1) (owner := RX5) dX11_cellar_134 ok_X5_standsAt (by decide +kernel) (by decide) w_X11_303 i_X5_standsAt s2_X1_X1_standsAt sm_X1_standsAt dc_X5_standsAt rfl (by decide) rfl (by first | assumption | omega) rfl rfl rfl (Nat.le_of_ble_eq_true rfl) (Nat.le_of_ble_eq_true rfl) (Nat.le_refl _) (x1_stands (d := 896) hN hR hmm m2 hk hrr hbb hpp (fun s w hs hw hf h => hcf s w hs hw hf h) ?_)
                exact E_iret dX11_cellar_137 rfl (by first | exact hq | (rw [if_neg (fun z => by have := (nI_eq (by omega) (by decide)).mp z; omega), nI_clamp (n := k) (by omega)] at hq; exact hq) | exact absurd c116 (by omega))
              · refine E_aload_n dX11_cellar_119 rfl ?_
                refine E_getR dX11_cellar_120 f_X11_68 rfl (Nat.lt_of_lt_of_le (by decide) hN) rfl (hR _ _ _ rfl) ?_
                refine E_callU (As := []) (kc' := 0) (ks' := 0) (kc := 0) (ks := 0) (ci := 1) (x := ⟨RX1, "price", "()I"⟩) (C := RX1) (owner := RX5) dX11_cellar_123 ok_X5_price (by decide +kernel) (by decide) w_X11_302 i_X5_price s2_X1_X1_price sm_X1_price dc_X5_price rfl (by decide) rfl (by first | assumption | omega) rfl rfl rfl (Nat.le_of_ble_eq_true rfl) (Nat.le_of_ble_eq_true rfl) (Nat.le_refl _) (x1_price (d := 899) hN hR (hrr 0 (Nat.two_pow_pos m)) ?_)
                refine E_goto (tgt := 137) dX11_cellar_126 (by decide) ?_
                exact E_iret dX11_cellar_137 rfl (by first | exact hq | (rw [if_neg (fun z => by have := (nI_eq (by omega) (by decide)).mp z; omega), nI_clamp (n := k) (by omega)] at hq; exact hq) | exact absurd c116 (by omega))
        · rw [gd_f (hng (fun h => z (tp_of (by omega) (by omega) h)))] at hQ
          rw [gd_f (hng (fun h => z (tp_of (by omega) (by omega) h)))] at hQ
          have hq := hQ I J hX (fun _ _ _ => rfl) (fun _ _ _ => rfl)
          refine E_zN_ne (a := 0) (tgt := 56) dX11_cellar_51 (by decide) (by decide) (fun c51 => absurd c51 (by omega)) (fun c51 => ?_)
          refine E_ic (-1) dX11_cellar_54 (by decide) ?_
          exact E_iret dX11_cellar_55 rfl (by first | exact hq | (rw [if_neg (fun z => by have := (nI_eq (by omega) (by decide)).mp z; omega), nI_clamp (n := k) (by omega)] at hq; exact hq) | exact absurd c116 (by omega))
      · skip
        exact absurd ((pl_iff (by omega)).mpr hp) z
  · have hno : ¬ gC σ (nI m) (nI fr) v := fun ⟨m', ⟨a1, a2, a3, a4⟩, _, z⟩ => hp (by rw [(nI_eq (by omega) (by omega)).mp a3]; exact z)
    rw [gd_f hno] at hQ
    rw [gd_f hno] at hQ
    have hq := hQ I J hX (fun _ _ _ => rfl) (fun _ _ _ => rfl)
    refine E_iload_n dX11_cellar_0 rfl ?_
    refine E_ic (nI 1) dX11_cellar_1 (by decide) ?_
    refine E_cN_lt (a := m) (b := 1) (tgt := 25) dX11_cellar_2 (by omega) (by decide) (by decide) (fun c2 => absurd c2 (by omega)) (fun c2 => ?_)
    refine E_iload_n dX11_cellar_5 rfl ?_
    refine E_bp (nI 8) dX11_cellar_6 (by decide) ?_
    refine E_cN_gt (a := m) (b := 8) (tgt := 25) dX11_cellar_8 (by omega) (by decide) (by decide) (fun c8 => absurd c8 (by omega)) (fun c8 => ?_)
    refine E_iload_n dX11_cellar_11 rfl ?_
    refine E_zN_lt (a := fr) (tgt := 25) dX11_cellar_12 (by omega) (by decide) (fun c12 => c12.elim) (fun c12 => ?_)
    refine E_iload_n dX11_cellar_15 rfl ?_
    refine E_bp (nI 100) dX11_cellar_16 (by decide) ?_
    refine E_cN_ge (a := fr) (b := 100) (tgt := 25) dX11_cellar_18 (by omega) (by decide) (by decide) (fun c18 => absurd c18 (by omega)) (fun c18 => ?_)
    refine E_ic (nI 1) dX11_cellar_21 (by decide) ?_
    refine E_goto (tgt := 26) dX11_cellar_22 (by decide) ?_
    refine E_istore dX11_cellar_26 (Nat.le_of_ble_eq_true rfl) ?_
    refine E_iload dX11_cellar_28 rfl ?_
    refine E_zN_eq (a := 1) (tgt := 54) dX11_cellar_30 (by decide) (by decide) (fun c30 => absurd c30 (by omega)) (fun c30 => ?_)
    refine E_iload_n dX11_cellar_33 rfl ?_
    refine E_iload_n dX11_cellar_34 rfl ?_
    refine E_callS (As := [_, _]) (kc' := 0) (ks' := 0) (kc := 0) (ks := 0) dX11_cellar_35 ok_X11_isPlace w_X11_268 st_X11_isPlace rfl rfl rfl (Nat.le_of_ble_eq_true rfl) (Nat.le_of_ble_eq_true rfl) (Nat.le_refl _) (x_isPlace (fun z => ?_) (fun z => ?_))
    · skip
      exact absurd ((pl_iff (by omega)).mp z) hp
    · skip
      refine E_zN_eq (a := 0) (tgt := 54) dX11_cellar_38 (by decide) (by decide) (fun c38 => ?_) (fun c38 => absurd c38 (by omega))
      refine E_ic (-1) dX11_cellar_54 (by decide) ?_
      exact E_iret dX11_cellar_55 rfl (hq)
set_option maxRecDepth 100000 in
set_option maxHeartbeats 2000000 in
theorem m_sizeN {a b : Nat} (ha : a < 2 ^ 30) (hb : b < 2 ^ 30) (hQ : Q (some (.int (nI (dfS a b)))) n I J R) : E g mX12_size d 0 0 0 (ent 1 [.int (nI a - nI b)]) [] n I J R Q := by
  refine E_iload_n dX12_size_0 rfl ?_
  refine E_if_ge (tgt := 9) dX12_size_1 (by decide) (fun c1 => ?_) (fun c1 => ?_)
  · refine E_iload_n dX12_size_9 rfl ?_
    exact E_iret dX12_size_10 rfl (by first | (rw [show dfS a b = a - b from if_pos (Nat.not_lt.mp (fun z => Int32.not_lt.mpr c1 ((df_neg ha hb).mpr z))), ← pk_sub (Nat.not_lt.mp (fun z => Int32.not_lt.mpr c1 ((df_neg ha hb).mpr z)))] at hQ; exact hQ) | (have z := (df_neg ha hb).mp (Int32.not_le.mp c1); rw [show dfS a b = b - a from if_neg (by omega), ← pk_sub (by omega), ← Int32.neg_sub] at hQ; exact hQ))
  · refine E_iload_n dX12_size_4 rfl ?_
    refine E_ineg dX12_size_5 ?_
    refine E_goto (tgt := 10) dX12_size_6 (by decide) ?_
    exact E_iret dX12_size_10 rfl (by first | (rw [show dfS a b = a - b from if_pos (Nat.not_lt.mp (fun z => Int32.not_lt.mpr c1 ((df_neg ha hb).mpr z))), ← pk_sub (Nat.not_lt.mp (fun z => Int32.not_lt.mpr c1 ((df_neg ha hb).mpr z)))] at hQ; exact hQ) | (have z := (df_neg ha hb).mp (Int32.not_le.mp c1); rw [show dfS a b = b - a from if_neg (by omega), ← pk_sub (by omega), ← Int32.neg_sub] at hQ; exact hQ))
set_option maxRecDepth 100000 in
set_option maxHeartbeats 2000000 in
theorem m_losesAt {k y : Nat} (hT : MT σ (I 121)) (hB : BND σ) (hN : 152 ≤ n) (hR : RS R) (hk : 2 * k + 1 < σ 9 0 0) (hy : y < 300) (hQ : Q (some (.int (nI (σ 8 (2 * k + 1) 0 * dfS (σ 8 (2 * k) 0) y)))) n I J R) : E g mX12_losesAt (d + 1) 0 0 0 (ent 3 [.ref 114, .int (nI k), .int (nI y)]) [] n I J R Q := by
  have b9 : σ 9 0 0 ≤ 260 := hB.2.2.2.2.2.1
  have b8 := hB.2.2.2.2.1 (2 * k) (by omega)
  refine E_aload_n dX12_losesAt_0 rfl ?_
  refine E_ic (nI 2) dX12_losesAt_1 (by decide) ?_
  refine E_iload_n dX12_losesAt_2 rfl ?_
  refine E_imul dX12_losesAt_3 ?_
  refine E.top (pk_mul 2 k) ?_
  refine E_ic (nI 1) dX12_losesAt_4 (by decide) ?_
  refine E_iadd dX12_losesAt_5 ?_
  refine E.top (nI_add (2 * k) 1) ?_
  refine E_callV (As := [_]) (ci := 11) (kc' := 0) (ks' := 0) (kc := 0) (ks := 0) dX12_losesAt_6 ok_X12_octet w_X12_387 i_X12_octet s_X12_octet rfl (by decide) rfl (Nat.lt_of_lt_of_le (by decide) hN) rfl rfl rfl (Nat.le_of_ble_eq_true rfl) (Nat.le_of_ble_eq_true rfl) (Nat.le_refl _) (m_octet hT hB hN hR (by omega) ?_)
  refine E_aload_n dX12_losesAt_9 rfl ?_
  refine E_ic (nI 2) dX12_losesAt_10 (by decide) ?_
  refine E_iload_n dX12_losesAt_11 rfl ?_
  refine E_imul dX12_losesAt_12 ?_
  refine E.top (pk_mul 2 k) ?_
  refine E_callV (As := [_]) (ci := 11) (kc' := 0) (ks' := 0) (kc := 0) (ks := 0) dX12_losesAt_13 ok_X12_octet w_X12_387 i_X12_octet s_X12_octet rfl (by decide) rfl (Nat.lt_of_lt_of_le (by decide) hN) rfl rfl rfl (Nat.le_of_ble_eq_true rfl) (Nat.le_of_ble_eq_true rfl) (Nat.le_refl _) (m_octet hT hB hN hR (by omega) ?_)
  refine E_iload_n dX12_losesAt_16 rfl ?_
  refine E_isub dX12_losesAt_17 ?_
  refine E_callS (As := [_]) (kc' := 0) (ks' := 0) (kc := 0) (ks := 0) dX12_losesAt_18 ok_X12_size w_X12_414 st_X12_size rfl rfl rfl (Nat.le_of_ble_eq_true rfl) (Nat.le_of_ble_eq_true rfl) (Nat.le_refl _) (m_sizeN (by omega) (by omega) ?_)
  refine E_imul dX12_losesAt_21 ?_
  refine E.top (pk_mul (σ 8 (2 * k + 1) 0) (dfS (σ 8 (2 * k) 0) y)) ?_
  exact E_iret dX12_losesAt_22 rfl (hQ)
theorem bnS_min {c : Nat → Nat → Nat} {r : Nat → Nat} {s w : Nat} (h : s / 2 ^ w % 2 = 0) : (bnS c r s (w + 1)).1 = if (bnS c r s w).1 < c s w + r (s ||| 2 ^ w) then (bnS c r s w).1 else c s w + r (s ||| 2 ^ w) := by
  by_cases e : c s w + r (s ||| 2 ^ w) < (bnS c r s w).1
  · rw [show bnS c r s (w + 1) = (c s w + r (s ||| 2 ^ w), w) from if_pos ⟨h, e⟩, if_neg (by omega)]
  · rw [show bnS c r s (w + 1) = bnS c r s w from if_neg (fun z => e z.2)]
    by_cases e2 : (bnS c r s w).1 < c s w + r (s ||| 2 ^ w)
    · rw [if_pos e2]
    · rw [if_neg e2]
      omega
theorem bnS_no {c : Nat → Nat → Nat} {r : Nat → Nat} {s w : Nat} (h : s / 2 ^ w % 2 = 1) : bnS c r s (w + 1) = bnS c r s w := if_neg (fun z => by have := z.1; omega)
theorem nI_ite {a b : Nat} (ha : a < 2 ^ 31) (hb : b < 2 ^ 31) : (if nI a < nI b then nI a else nI b) = nI (if a < b then a else b) := by
  by_cases h : a < b
  · rw [if_pos h, if_pos ((nI_ltI ha hb).mpr h)]
  · rw [if_neg h, if_neg (fun z => h ((nI_ltI ha hb).mp z))]
set_option maxRecDepth 100000 in
set_option maxHeartbeats 2000000 in
theorem m_laysLoss {m fr : Nat} (hT : MT σ (I 121)) (hB : BND σ) (hN : 152 ≤ n) (hR : RS R) (m1 : 1 ≤ m) (m2 : m ≤ 8) (hm9 : 2 * m ≤ σ 9 0 0) (hfr : fr ≤ 99) (hcb : ∀ s w, s < 2 ^ m → w < m → clS σ fr s w ≤ 5550) (hQ : Q none n (put I 151 256 (tbI I 151 (clS σ fr) m (2 ^ m - 1 - 0))) J R) : E g mX12_laysLoss (d + 3) 0 0 0 (ent 5 [.ref 114, .int (nI m), .int (nI fr)]) [] n I J R Q := by
  have p2 : 2 ^ m ≤ 256 := Nat.pow_le_pow_right (show 0 < 2 by decide) m2
  have p1 : 0 < 2 ^ m := Nat.two_pow_pos m
  have p3 : 2 ^ 1 ≤ 2 ^ m := Nat.pow_le_pow_right (by decide) m1
  have b9 : σ 9 0 0 ≤ 260 := hB.2.2.2.2.2.1
  have hT0 := hT
  have L : ∀ q, q ≤ 2 ^ m - 1 → E g mX12_laysLoss (d + 3) 0 0 17 [.ref 114, .int (nI m), .int (nI fr), .int (dnI q), jk] [] n (put I 151 256 (tbI I 151 (clS σ fr) m (2 ^ m - 1 - q))) J R Q := by
    refine loopD ?_ (fun q ihq hq => ?_)
    · intro _
      refine E_iload_n dX12_laysLoss_17 rfl ?_
      refine E_if_lt (tgt := 99) dX12_laysLoss_18 (by decide) (fun c18 => ?_) (fun c18 => by first | exact absurd c18 ((by decide)) | exact absurd ((by decide)) c18)
      exact E_ret dX12_laysLoss_99 rfl (hQ)
    · have ihq := ihq (by omega)
      obtain ⟨hr, hb, -⟩ := tb_step I 151 m2 hcb (by decide) (show q < 2 ^ m - 1 by omega)
      refine E.locD ?_
      have Lw : ∀ w, w ≤ m → E g mX12_laysLoss (d + 3) 0 0 33 [.ref 114, .int (nI m), .int (nI fr), .int (nI q), .int (nI w)] [] n (up2 (put I 151 256 (tbI I 151 (clS σ fr) m (2 ^ m - 1 - (q + 1)))) 151 q (nI (bnS (clS σ fr) (tbS (clS σ fr) m (2 ^ m - 1 - (q + 1))) q w).1)) J R Q := by
        refine loopU m ?_ (fun w hw ih => ?_)
        · refine E_iload dX12_laysLoss_33 rfl ?_
          refine E_iload_n dX12_laysLoss_35 rfl ?_
          refine E_cN_ge (a := m) (b := m) (tgt := 93) dX12_laysLoss_36 (by omega) (by omega) (by decide) (fun c36 => ?_) (fun c36 => absurd c36 (by omega))
          refine E_inc (-1) dX12_laysLoss_93 rfl (by decide) ?_
          refine E_goto (tgt := 17) dX12_laysLoss_96 (by decide) ?_
          refine E.mask [true, true, true, true, false] ?_
          refine E.mem (tbI_s I 151 (clS σ fr) m2 (by omega)) ?_
          rw [← dn_m1 q] at ihq
          exact ihq
        · have l1 := (bnS_le (clS σ fr) (tbS (clS σ fr) m (2 ^ m - 1 - (q + 1))) q w).1
          have w2 := Nat.pow_lt_pow_right (show 1 < 2 by decide) (show w < 8 by omega)
          have o1 := or_lt8 (show q < 256 by omega) (show w < 8 by omega)
          have pl := pop_le q 12
          have cw := hcb q w (by omega) hw
          have og := orb_gt q w
          have hbw := hb w hw
          have hT : MT σ ((up2 (put I 151 256 (tbI I 151 (clS σ fr) m (2 ^ m - 1 - (q + 1)))) 151 q (nI (bnS (clS σ fr) (tbS (clS σ fr) m (2 ^ m - 1 - (q + 1))) q w).1)) 121) := hT0
          refine E_iload dX12_laysLoss_33 rfl ?_
          refine E_iload_n dX12_laysLoss_35 rfl ?_
          refine E_cN_ge (a := w) (b := m) (tgt := 93) dX12_laysLoss_36 (by omega) (by omega) (by decide) (fun c36 => absurd c36 (by omega)) (fun c36 => ?_)
          refine E_iload_n dX12_laysLoss_39 rfl ?_
          refine E_iload dX12_laysLoss_40 rfl ?_
          refine E_callS (As := [_, _]) (kc' := 0) (ks' := 0) (kc := 0) (ks := 0) dX12_laysLoss_42 ok_X12_has w_X12_376 st_X12_has rfl rfl rfl (Nat.le_of_ble_eq_true rfl) (Nat.le_of_ble_eq_true rfl) (Nat.le_refl _) (m_has (fun hh => ?_) (fun hh => ?_))
          · have hbt : q / 2 ^ w % 2 = 1 := by rw [bitT (by omega) (by omega)] at hh; exact (nI_eq (by omega) (by decide)).mp hh
            refine E_zN_ne (a := 1) (tgt := 87) dX12_laysLoss_45 (by decide) (by decide) (fun c45 => ?_) (fun c45 => absurd c45 (by omega))
            refine E_incN dX12_laysLoss_87 rfl ?_
            refine E_goto (tgt := 33) dX12_laysLoss_90 (by decide) ?_
            first | (rw [bnS_no hbt] at ih; exact ih) | exact ih
          · have hbt : q / 2 ^ w % 2 = 0 := by rcases bit_cases q w with z | z; exact z; exact absurd (by rw [bitT (by omega) (by omega), z]) hh
            refine E_zN_ne (a := 0) (tgt := 87) dX12_laysLoss_45 (by decide) (by decide) (fun c45 => absurd c45 (by omega)) (fun c45 => ?_)
            refine E_aload_n dX12_laysLoss_48 rfl ?_
            refine E_getR dX12_laysLoss_49 f_X12_121 rfl (Nat.lt_of_lt_of_le (by decide) hN) rfl (hR _ _ _ rfl) ?_
            refine E_iload_n dX12_laysLoss_52 rfl ?_
            refine E_aload_n dX12_laysLoss_53 rfl ?_
            refine E_getR dX12_laysLoss_54 f_X12_121 rfl (Nat.lt_of_lt_of_le (by decide) hN) rfl (hR _ _ _ rfl) ?_
            refine E_iload_n dX12_laysLoss_57 rfl ?_
            refine E_ialdN dX12_laysLoss_58 rfl (Nat.lt_of_lt_of_le (by decide) hN) (by first | assumption | omega) ?_
            refine E.top (up2_s _ _ _ _) ?_
            refine E_aload_n dX12_laysLoss_59 rfl ?_
            refine E_iload dX12_laysLoss_60 rfl ?_
            refine E_iload_n dX12_laysLoss_62 rfl ?_
            refine E_iload_n dX12_laysLoss_63 rfl ?_
            refine E_callS (As := [_]) (kc' := 0) (ks' := 0) (kc := 0) (ks := 0) dX12_laysLoss_64 ok_X12_bits w_X12_379 st_X12_bits rfl rfl rfl (Nat.le_of_ble_eq_true rfl) (Nat.le_of_ble_eq_true rfl) (Nat.le_refl _) (m_bits (by omega) ?_)
            refine E_iadd dX12_laysLoss_67 ?_
            refine E.top (nI_add fr (pop q 12)) ?_
            refine E_callV (As := [_, _]) (ci := 11) (kc' := 0) (ks' := 0) (kc := 0) (ks := 0) dX12_laysLoss_68 ok_X12_losesAt w_X12_417 i_X12_losesAt s_X12_losesAt rfl (by decide) rfl (Nat.lt_of_lt_of_le (by decide) hN) rfl rfl rfl (Nat.le_of_ble_eq_true rfl) (Nat.le_of_ble_eq_true rfl) (Nat.le_refl _) (m_losesAt (d := d + 1) hT hB hN hR (by omega) (by omega) ?_)
            refine E_aload_n dX12_laysLoss_71 rfl ?_
            refine E_getR dX12_laysLoss_72 f_X12_121 rfl (Nat.lt_of_lt_of_le (by decide) hN) rfl (hR _ _ _ rfl) ?_
            refine E_iload_n dX12_laysLoss_75 rfl ?_
            refine E_ic (nI 1) dX12_laysLoss_76 (by decide) ?_
            refine E_iload dX12_laysLoss_77 rfl ?_
            refine E_ishl dX12_laysLoss_79 ?_
            refine E.top (shl1 w (by omega)) ?_
            refine E_ior dX12_laysLoss_80 ?_
            refine E.top (nI_or (by omega) (by omega)) ?_
            refine E_ialdN dX12_laysLoss_81 rfl (Nat.lt_of_lt_of_le (by decide) hN) (by omega) ?_
            refine E.top ((up2_k _ _ (by omega)).trans (hr w hw hbt)) ?_
            refine E_iadd dX12_laysLoss_82 ?_
            refine E.top (nI_add (clS σ fr q w) ((tbS (clS σ fr) m (2 ^ m - 1 - (q + 1))) (q ||| 2 ^ w))) ?_
            refine E_callS (As := [_, _]) (kc' := 0) (ks' := 0) (kc := 0) (ks := 0) dX12_laysLoss_83 ok_X12_min w_X12_292 st_X12_min rfl rfl rfl (Nat.le_of_ble_eq_true rfl) (Nat.le_of_ble_eq_true rfl) (Nat.le_refl _) (m_min ?_)
            refine E.top ((nI_ite (by omega) (by omega)).trans (congrArg nI (bnS_min hbt).symm)) ?_
            refine E_iastN dX12_laysLoss_86 rfl (Nat.lt_of_lt_of_le (by decide) hN) (by omega) ?_
            refine E.mem (up2_up2 _ 151 q _ _) ?_
            refine E_incN dX12_laysLoss_87 rfl ?_
            refine E_goto (tgt := 33) dX12_laysLoss_90 (by decide) ?_
            first | (rw [bnS_no hbt] at ih; exact ih) | exact ih
      refine E_iload_n dX12_laysLoss_17 rfl ?_
      refine E_zN_lt (a := q) (tgt := 99) dX12_laysLoss_18 (by omega) (by decide) (fun c18 => c18.elim) (fun c18 => ?_)
      refine E_aload_n dX12_laysLoss_21 rfl ?_
      refine E_getR dX12_laysLoss_22 f_X12_121 rfl (Nat.lt_of_lt_of_le (by decide) hN) rfl (hR _ _ _ rfl) ?_
      refine E_iload_n dX12_laysLoss_25 rfl ?_
      refine E_ldcw (nI 1000000) dX12_laysLoss_26 k_X12_398 ?_
      refine E_iastN dX12_laysLoss_29 rfl (Nat.lt_of_lt_of_le (by decide) hN) (by first | assumption | omega) ?_
      refine E_ic (nI 0) dX12_laysLoss_30 (by decide) ?_
      refine E_istore dX12_laysLoss_31 (Nat.le_of_ble_eq_true rfl) ?_
      exact Lw 0 (Nat.zero_le _)
  refine E_aload_n dX12_laysLoss_0 rfl ?_
  refine E_getR dX12_laysLoss_1 f_X12_121 rfl (Nat.lt_of_lt_of_le (by decide) hN) rfl (hR _ _ _ rfl) ?_
  refine E_ic (nI 1) dX12_laysLoss_4 (by decide) ?_
  refine E_iload_n dX12_laysLoss_5 rfl ?_
  refine E_ishl dX12_laysLoss_6 ?_
  refine E.top (shl1 m (by omega)) ?_
  refine E_ic (nI 1) dX12_laysLoss_7 (by decide) ?_
  refine E_isub dX12_laysLoss_8 ?_
  refine E.top (pk_sub (a := 2 ^ m) (b := 1) (by omega)) ?_
  refine E_ic (nI 0) dX12_laysLoss_9 (by decide) ?_
  refine E_iastN dX12_laysLoss_10 rfl (Nat.lt_of_lt_of_le (by decide) hN) (by first | assumption | omega) ?_
  refine E.mem (tbI_0 I 151 (clS σ fr) m2) ?_
  refine E_ic (nI 1) dX12_laysLoss_11 (by decide) ?_
  refine E_iload_n dX12_laysLoss_12 rfl ?_
  refine E_ishl dX12_laysLoss_13 ?_
  refine E.top (shl1 m (by omega)) ?_
  refine E_ic (nI 2) dX12_laysLoss_14 (by decide) ?_
  refine E_isub dX12_laysLoss_15 ?_
  refine E.top (show nI (2 ^ m) - nI 2 = dnI (2 ^ m - 1) by rw [pk_sub (show 2 ≤ 2 ^ m by omega), show 2 ^ m - 1 = (2 ^ m - 2) + 1 by omega]; rfl) ?_
  refine E_istore_n dX12_laysLoss_16 (Nat.le_of_ble_eq_true rfl) ?_
  have L := L (2 ^ m - 1) (Nat.le_refl _)
  rw [Nat.sub_self] at L
  exact L
set_option maxRecDepth 100000 in
set_option maxHeartbeats 2000000 in
theorem sm_cellar (x w v : Int32) : SM mX12_cellar [.int x, .int w, .int v] (r_cellar x w v) (u_cellar x w v) := by
  intro g n I J R σ Q hB hM hN hR hQ
  have b9 : σ 9 0 0 ≤ 260 := hB.2.2.2.2.2.1
  unfold r_cellar u_cellar at hQ
  have hNO : ¬ gC σ x w v → Q (some (.int (-1))) n I J R := fun hno => by
    rw [gd_f hno] at hQ
    rw [gd_f hno] at hQ
    exact hQ I J hM (fun _ _ => rfl) rfl (fun _ _ _ => rfl)
  by_cases hx : ∃ m, 1 ≤ m ∧ m ≤ 8 ∧ x = nI m
  · obtain ⟨m, m1, m2, rfl⟩ := hx
    by_cases hw : rg w 99
    · obtain ⟨fr, hfr, rfl⟩ := hw
      by_cases hp : plS v m
      · have hg : 2 * m ≤ σ 9 0 0 → gC σ (nI m) (nI fr) v := fun h => ⟨m, ⟨m1, m2, rfl, h⟩, rg_of (by omega), hp⟩
        have hng : ¬ 2 * m ≤ σ 9 0 0 → ¬ gC σ (nI m) (nI fr) v := fun h ⟨m', ⟨a1, a2, a3, a4⟩, _⟩ => h (by have := (nI_eq (by omega) (by omega)).mp a3; omega)
        by_cases hm9 : 2 * m ≤ σ 9 0 0
        · rw [gd_t (hg hm9)] at hQ
          rw [gd_t (hg hm9), nI_clamp (n := m) (by omega), nI_clamp (n := fr) (by omega)] at hQ
          have hT : MT σ ((up2 I 114 7 (nI 0)) 121) := hM.2.2.2.2.1
          have hp0 := hp
          rcases hp0 with rfl | ⟨k, hk, rfl⟩
          · skip
            have Lc : ∀ j, j ≤ m → (∀ q2, q2 < j → σ 8 (2 * q2) 0 ≤ 99 ∧ σ 8 (2 * q2 + 1) 0 ≤ 50) → E g mX12_cellar 900 0 0 57 [.ref 114, .int (nI m), .int (nI fr), .int (nI 100), .int (nI j), jk, jk] [] n (up2 I 114 7 (nI 0)) J R Q := by
              refine loopU m (fun hc => ?_) (fun j hj ih hc => ?_)
              · have ok : ∀ k, k < m → σ 8 (2 * k) 0 ≤ 99 ∧ σ 8 (2 * k + 1) 0 ≤ 50 := hc
                rw [gd_f (fun ⟨k, k1, k2⟩ => by have := ok k k1; omega)] at hQ
                have hcb := clS_le (m := m) (show fr ≤ 99 by omega) ok
                have p2 : 2 ^ m ≤ 256 := Nat.pow_le_pow_right (show 0 < 2 by decide) m2
                have hq := hQ (put (up2 I 114 7 (nI 0)) 151 256 (tbI (up2 I 114 7 (nI 0)) 151 (clS σ fr) m (2 ^ m - 1 - 0))) J (MR.put (u0_M hM) 151 256 _ (by decide)) (fun a a1 => (put_o _ 151 256 _ (by omega)).trans (up2_o I 114 7 _ a (by omega))) (by rw [put_o _ 151 256 _ (by decide)]; rfl) (fun a a1 _ => (put_o _ 151 256 _ (by omega)).trans (up2_o I 114 7 _ a (by omega)))
                have hrr : ∀ y, y < 2 ^ m → (put (up2 I 114 7 (nI 0)) 151 256 (tbI (up2 I 114 7 (nI 0)) 151 (clS σ fr) m (2 ^ m - 1 - 0))) 151 y = nI (rtS (clS σ fr) m y) := fun y hy => tbI_r m2 (Nat.zero_le _) (Nat.zero_le _) hy
                have hbb : ∀ s w, s < 2 ^ m → w < m → s / 2 ^ w % 2 = 0 → clS σ fr s w + rtS (clS σ fr) m (s ||| 2 ^ w) < 2 ^ 30 := fun s w hs hw hf => by have := tb_price m2 hcb hs hw hf (Nat.zero_le (s + 1)); exact Nat.lt_of_le_of_lt this (by decide)
                rw [if_pos rfl] at hq
                refine E_iload dX12_cellar_57 rfl ?_
                refine E_iload_n dX12_cellar_59 rfl ?_
                refine E_cN_ge (a := m) (b := m) (tgt := 100) dX12_cellar_60 (by omega) (by omega) (by decide) (fun c60 => ?_) (fun c60 => absurd c60 (by omega))
                refine E_aload_n dX12_cellar_100 rfl ?_
                refine E_iload_n dX12_cellar_101 rfl ?_
                refine E_iload_n dX12_cellar_102 rfl ?_
                refine E_callV (As := [_, _]) (ci := 11) (kc' := 0) (ks' := 0) (kc := 0) (ks := 0) dX12_cellar_103 ok_X12_laysLoss w_X12_420 i_X12_laysLoss s_X12_laysLoss rfl (by decide) rfl (Nat.lt_of_lt_of_le (by decide) hN) rfl rfl rfl (Nat.le_of_ble_eq_true rfl) (Nat.le_of_ble_eq_true rfl) (Nat.le_refl _) (m_laysLoss (d := 896) hT hB hN hR m1 m2 hm9 (by omega) hcb ?_)
                have hT : MT σ ((put (up2 I 114 7 (nI 0)) 151 256 (tbI (up2 I 114 7 (nI 0)) 151 (clS σ fr) m (2 ^ m - 1 - 0))) 121) := hT
                refine E_iload_n dX12_cellar_106 rfl ?_
                refine E_bp (nI 100) dX12_cellar_107 (by decide) ?_
                refine E_cN_ne (a := 100) (b := 100) (tgt := 119) dX12_cellar_109 (by decide) (by decide) (by decide) (fun c109 => absurd c109 (by omega)) (fun c109 => ?_)
                refine E_aload_n dX12_cellar_112 rfl ?_
                refine E_getR dX12_cellar_113 f_X12_121 rfl (Nat.lt_of_lt_of_le (by decide) hN) rfl (hR _ _ _ rfl) ?_
                refine E_ic (nI 0) dX12_cellar_116 (by decide) ?_
                refine E_ialdN dX12_cellar_117 rfl (Nat.lt_of_lt_of_le (by decide) hN) (by decide) ?_
                refine E.top (hrr 0 (Nat.two_pow_pos m)) ?_
                exact E_iret dX12_cellar_118 rfl (hq)
              · have b8 := hB.2.2.2.2.1 (2 * j) (by omega)
                have b82 := hB.2.2.2.2.1 (2 * j + 1) (by omega)
                refine E_iload dX12_cellar_57 rfl ?_
                refine E_iload_n dX12_cellar_59 rfl ?_
                refine E_cN_ge (a := j) (b := m) (tgt := 100) dX12_cellar_60 (by omega) (by omega) (by decide) (fun c60 => absurd c60 (by omega)) (fun c60 => ?_)
                refine E_aload_n dX12_cellar_63 rfl ?_
                refine E_ic (nI 2) dX12_cellar_64 (by decide) ?_
                refine E_iload dX12_cellar_65 rfl ?_
                refine E_imul dX12_cellar_67 ?_
                refine E.top (pk_mul 2 j) ?_
                refine E_callV (As := [_]) (ci := 11) (kc' := 0) (ks' := 0) (kc := 0) (ks := 0) dX12_cellar_68 ok_X12_octet w_X12_387 i_X12_octet s_X12_octet rfl (by decide) rfl (Nat.lt_of_lt_of_le (by decide) hN) rfl rfl rfl (Nat.le_of_ble_eq_true rfl) (Nat.le_of_ble_eq_true rfl) (Nat.le_refl _) (m_octet (d := 899) hT hB hN hR (by omega) ?_)
                refine E_bp (nI 99) dX12_cellar_71 (by decide) ?_
                refine E_cN_gt (a := σ 8 (2 * j) 0) (b := 99) (tgt := 91) dX12_cellar_73 (by omega) (by decide) (by decide) (fun c73 => ?_) (fun c73 => ?_)
                · refine E_bp (-3) dX12_cellar_91 (by decide) ?_
                  exact E_iret dX12_cellar_93 rfl (by first | (rw [gd_t (show bdS σ m from ⟨j, hj, Or.inl c73⟩)] at hQ; exact hQ (up2 I 114 7 (nI 0)) J (u0_M hM) (fun a a1 => up2_o I 114 7 _ a (by omega)) rfl (fun a a1 _ => up2_o I 114 7 _ a (by omega))) | (rw [gd_t (show bdS σ m from ⟨j, hj, Or.inr c88⟩)] at hQ; exact hQ (up2 I 114 7 (nI 0)) J (u0_M hM) (fun a a1 => up2_o I 114 7 _ a (by omega)) rfl (fun a a1 _ => up2_o I 114 7 _ a (by omega))))
                · refine E_aload_n dX12_cellar_76 rfl ?_
                  refine E_ic (nI 2) dX12_cellar_77 (by decide) ?_
                  refine E_iload dX12_cellar_78 rfl ?_
                  refine E_imul dX12_cellar_80 ?_
                  refine E.top (pk_mul 2 j) ?_
                  refine E_ic (nI 1) dX12_cellar_81 (by decide) ?_
                  refine E_iadd dX12_cellar_82 ?_
                  refine E.top (nI_add (2 * j) 1) ?_
                  refine E_callV (As := [_]) (ci := 11) (kc' := 0) (ks' := 0) (kc := 0) (ks := 0) dX12_cellar_83 ok_X12_octet w_X12_387 i_X12_octet s_X12_octet rfl (by decide) rfl (Nat.lt_of_lt_of_le (by decide) hN) rfl rfl rfl (Nat.le_of_ble_eq_true rfl) (Nat.le_of_ble_eq_true rfl) (Nat.le_refl _) (m_octet (d := 899) hT hB hN hR (by omega) ?_)
                  refine E_bp (nI 50) dX12_cellar_86 (by decide) ?_
                  refine E_cN_le (a := σ 8 (2 * j + 1) 0) (b := 50) (tgt := 94) dX12_cellar_88 (by omega) (by decide) (by decide) (fun c88 => ?_) (fun c88 => ?_)
                  · refine E_incN dX12_cellar_94 rfl ?_
                    refine E_goto (tgt := 57) dX12_cellar_97 (by decide) ?_
                    exact ih (fun q2 h2 => by rcases Nat.lt_succ_iff_lt_or_eq.mp h2 with z | z; exact hc q2 z; subst z; exact ⟨c73, c88⟩)
                  · refine E_bp (-3) dX12_cellar_91 (by decide) ?_
                    exact E_iret dX12_cellar_93 rfl (by first | (rw [gd_t (show bdS σ m from ⟨j, hj, Or.inl c73⟩)] at hQ; exact hQ (up2 I 114 7 (nI 0)) J (u0_M hM) (fun a a1 => up2_o I 114 7 _ a (by omega)) rfl (fun a a1 _ => up2_o I 114 7 _ a (by omega))) | (rw [gd_t (show bdS σ m from ⟨j, hj, Or.inr c88⟩)] at hQ; exact hQ (up2 I 114 7 (nI 0)) J (u0_M hM) (fun a a1 => up2_o I 114 7 _ a (by omega)) rfl (fun a a1 _ => up2_o I 114 7 _ a (by omega))))
            refine E_iload_n dX12_cellar_0 rfl ?_
            refine E_ic (nI 1) dX12_cellar_1 (by decide) ?_
            refine E_bp (nI 8) dX12_cellar_2 (by decide) ?_
            refine E_callS (As := [_, _, _]) (kc' := 0) (ks' := 0) (kc := 0) (ks := 0) dX12_cellar_4 ok_X12_in w_X12_124 st_X12_in rfl rfl rfl (Nat.le_of_ble_eq_true rfl) (Nat.le_of_ble_eq_true rfl) (Nat.le_refl _) (M_in (x := nI m) (by decide) (by decide) (fun _ _ _ _ => ?_) (fun z => ?_))
            · skip
              refine E_zN_eq (a := 1) (tgt := 47) dX12_cellar_7 (by decide) (by decide) (fun c7 => absurd c7 (by omega)) (fun c7 => ?_)
              refine E_iload_n dX12_cellar_10 rfl ?_
              refine E_ic (nI 0) dX12_cellar_11 (by decide) ?_
              refine E_bp (nI 99) dX12_cellar_12 (by decide) ?_
              refine E_callS (As := [_, _, _]) (kc' := 0) (ks' := 0) (kc := 0) (ks := 0) dX12_cellar_14 ok_X12_in w_X12_124 st_X12_in rfl rfl rfl (Nat.le_of_ble_eq_true rfl) (Nat.le_of_ble_eq_true rfl) (Nat.le_refl _) (M_in (x := nI fr) (by decide) (by decide) (fun _ _ _ _ => ?_) (fun z => ?_))
              · skip
                refine E_zN_eq (a := 1) (tgt := 47) dX12_cellar_17 (by decide) (by decide) (fun c17 => absurd c17 (by omega)) (fun c17 => ?_)
                refine E_iload_n dX12_cellar_20 rfl ?_
                refine E_ic (nI 0) dX12_cellar_21 (by decide) ?_
                refine E_iload_n dX12_cellar_22 rfl ?_
                refine E_ic (nI 1) dX12_cellar_23 (by decide) ?_
                refine E_isub dX12_cellar_24 ?_
                refine E.top (pk_sub (a := m) (b := 1) (by omega)) ?_
                refine E_callS (As := [_, _, _]) (kc' := 0) (ks' := 0) (kc := 0) (ks := 0) dX12_cellar_25 ok_X12_in w_X12_124 st_X12_in rfl rfl rfl (Nat.le_of_ble_eq_true rfl) (Nat.le_of_ble_eq_true rfl) (Nat.le_refl _) (M_in (x := nI 100) (by decide) (by omega) (fun k q1 q2 q3 => ?_) (fun z => ?_))
                · skip
                  exact absurd ((nI_eq (by decide) (by omega)).mp q3) (by omega)
                · skip
                  refine E_zN_ne (a := 0) (tgt := 37) dX12_cellar_28 (by decide) (by decide) (fun c28 => absurd c28 (by omega)) (fun c28 => ?_)
                  refine E_iload_n dX12_cellar_31 rfl ?_
                  refine E_bp (nI 100) dX12_cellar_32 (by decide) ?_
                  refine E_cN_ne (a := 100) (b := 100) (tgt := 47) dX12_cellar_34 (by decide) (by decide) (by decide) (fun c34 => absurd c34 (by omega)) (fun c34 => ?_)
                  refine E_ic (nI 2) dX12_cellar_37 (by decide) ?_
                  refine E_iload_n dX12_cellar_38 rfl ?_
                  refine E_imul dX12_cellar_39 ?_
                  refine E.top (pk_mul 2 m) ?_
                  refine E_aload_n dX12_cellar_40 rfl ?_
                  refine E_getI dX12_cellar_41 f_X12_128 rfl (Nat.lt_of_lt_of_le (by decide) hN) rfl ?_
                  refine E.top (hM.2.2.2.1.1) ?_
                  refine E_cN_le (a := 2 * m) (b := σ 9 0 0) (tgt := 49) dX12_cellar_44 (by omega) (by omega) (by decide) (fun c44 => ?_) (fun c44 => absurd c44 (by omega))
                  refine E_aload_n dX12_cellar_49 rfl ?_
                  refine E_ic (nI 0) dX12_cellar_50 (by decide) ?_
                  refine E_putI dX12_cellar_51 f_X12_128 rfl (Nat.lt_of_lt_of_le (by decide) hN) rfl ?_
                  refine E_ic (nI 0) dX12_cellar_54 (by decide) ?_
                  refine E_istore dX12_cellar_55 (Nat.le_of_ble_eq_true rfl) ?_
                  exact Lc 0 (Nat.zero_le _) (fun q h => absurd h (Nat.not_lt_zero q))
              · skip
                exact absurd rfl (z _ (by omega) (by omega))
            · skip
              exact absurd rfl (z _ (by omega) (by omega))
          · skip
            have Lc : ∀ j, j ≤ m → (∀ q2, q2 < j → σ 8 (2 * q2) 0 ≤ 99 ∧ σ 8 (2 * q2 + 1) 0 ≤ 50) → E g mX12_cellar 900 0 0 57 [.ref 114, .int (nI m), .int (nI fr), .int (nI k), .int (nI j), jk, jk] [] n (up2 I 114 7 (nI 0)) J R Q := by
              refine loopU m (fun hc => ?_) (fun j hj ih hc => ?_)
              · have ok : ∀ k, k < m → σ 8 (2 * k) 0 ≤ 99 ∧ σ 8 (2 * k + 1) 0 ≤ 50 := hc
                rw [gd_f (fun ⟨k, k1, k2⟩ => by have := ok k k1; omega)] at hQ
                have hcb := clS_le (m := m) (show fr ≤ 99 by omega) ok
                have p2 : 2 ^ m ≤ 256 := Nat.pow_le_pow_right (show 0 < 2 by decide) m2
                have hq := hQ (put (up2 I 114 7 (nI 0)) 151 256 (tbI (up2 I 114 7 (nI 0)) 151 (clS σ fr) m (2 ^ m - 1 - 0))) J (MR.put (u0_M hM) 151 256 _ (by decide)) (fun a a1 => (put_o _ 151 256 _ (by omega)).trans (up2_o I 114 7 _ a (by omega))) (by rw [put_o _ 151 256 _ (by decide)]; rfl) (fun a a1 _ => (put_o _ 151 256 _ (by omega)).trans (up2_o I 114 7 _ a (by omega)))
                have hrr : ∀ y, y < 2 ^ m → (put (up2 I 114 7 (nI 0)) 151 256 (tbI (up2 I 114 7 (nI 0)) 151 (clS σ fr) m (2 ^ m - 1 - 0))) 151 y = nI (rtS (clS σ fr) m y) := fun y hy => tbI_r m2 (Nat.zero_le _) (Nat.zero_le _) hy
                have hbb : ∀ s w, s < 2 ^ m → w < m → s / 2 ^ w % 2 = 0 → clS σ fr s w + rtS (clS σ fr) m (s ||| 2 ^ w) < 2 ^ 30 := fun s w hs hw hf => by have := tb_price m2 hcb hs hw hf (Nat.zero_le (s + 1)); exact Nat.lt_of_le_of_lt this (by decide)
                rw [if_neg (fun z => by have := (nI_eq (by omega) (by decide)).mp z; omega), nI_clamp (n := k) (by omega)] at hq
                have hT1 := hT
                have hT : MT σ ((put (up2 I 114 7 (nI 0)) 151 256 (tbI (up2 I 114 7 (nI 0)) 151 (clS σ fr) m (2 ^ m - 1 - 0))) 121) := hT
                have Lq : ∀ q, q ≤ (k + 1) → E g mX12_cellar 900 0 0 128 [.ref 114, .int (nI m), .int (nI fr), .int (nI k), .int (nI ((pthS (clS σ fr) (rtS (clS σ fr) m) m q).1)), .int (nI ((pthS (clS σ fr) (rtS (clS σ fr) m) m q).2)), .int (nI q)] [] n (put (up2 I 114 7 (nI 0)) 151 256 (tbI (up2 I 114 7 (nI 0)) 151 (clS σ fr) m (2 ^ m - 1 - 0))) J R Q := by
                  refine loopU (k + 1) ?_ (fun q hq2 ihq => ?_)
                  · refine E_iload dX12_cellar_128 rfl ?_
                    refine E_iload_n dX12_cellar_130 rfl ?_
                    refine E_cN_gt (a := k + 1) (b := k) (tgt := 204) dX12_cellar_131 (by omega) (by omega) (by decide) (fun c131 => ?_) (fun c131 => absurd c131 (by omega))
                    refine E_iload dX12_cellar_204 rfl ?_
                    exact E_iret dX12_cellar_206 rfl (hq)
                  · obtain ⟨a1, a2, a3⟩ := pth_ok m2 hcb (by decide) q (by omega)
                    obtain ⟨b1, b2, b3, b4⟩ := rt_fd m2 hcb (by decide) (a3 (by omega))
                    have e0 : (rtS (clS σ fr) m) (pthS (clS σ fr) (rtS (clS σ fr) m) m q).1 = (bnS (clS σ fr) (rtS (clS σ fr) m) (pthS (clS σ fr) (rtS (clS σ fr) m) m q).1 m).1 := rtS_e (a3 (by omega))
                    have l1 := (bnS_le (clS σ fr) (rtS (clS σ fr) m) (pthS (clS σ fr) (rtS (clS σ fr) m) m q).1 m).1
                    have Ld : ∀ dd, dd ≤ ((bnS (clS σ fr) (rtS (clS σ fr) m) (pthS (clS σ fr) (rtS (clS σ fr) m) m q).1 m).2) → E g mX12_cellar 900 0 0 137 [.ref 114, .int (nI m), .int (nI fr), .int (nI k), .int (nI ((pthS (clS σ fr) (rtS (clS σ fr) m) m q).1)), .int (nI dd), .int (nI q)] [] n (put (up2 I 114 7 (nI 0)) 151 256 (tbI (up2 I 114 7 (nI 0)) 151 (clS σ fr) m (2 ^ m - 1 - 0))) J R Q := by
                      refine loopU ((bnS (clS σ fr) (rtS (clS σ fr) m) (pthS (clS σ fr) (rtS (clS σ fr) m) m q).1 m).2) ?_ (fun dd hdd ihd => ?_)
                      · have w2 := Nat.pow_lt_pow_right (show 1 < 2 by decide) (show (bnS (clS σ fr) (rtS (clS σ fr) m) (pthS (clS σ fr) (rtS (clS σ fr) m) m q).1 m).2 < 8 by omega)
                        have o1 := or_ltm a1 b1
                        have cw := hcb _ _ a1 b1
                        refine E_iload dX12_cellar_137 rfl ?_
                        refine E_iload dX12_cellar_139 rfl ?_
                        refine E_callS (As := [_, _]) (kc' := 0) (ks' := 0) (kc := 0) (ks := 0) dX12_cellar_141 ok_X12_has w_X12_376 st_X12_has rfl rfl rfl (Nat.le_of_ble_eq_true rfl) (Nat.le_of_ble_eq_true rfl) (Nat.le_refl _) (m_has (fun hh => ?_) (fun hh => ?_))
                        · skip
                          rw [bitT (by omega) (by omega), b2] at hh
                          exact absurd hh (by decide)
                        · skip
                          refine E_zN_ne (a := 0) (tgt := 180) dX12_cellar_144 (by decide) (by decide) (fun c144 => absurd c144 (by omega)) (fun c144 => ?_)
                          refine E_aload_n dX12_cellar_147 rfl ?_
                          refine E_iload dX12_cellar_148 rfl ?_
                          refine E_iload_n dX12_cellar_150 rfl ?_
                          refine E_iload dX12_cellar_151 rfl ?_
                          refine E_iadd dX12_cellar_153 ?_
                          refine E.top (nI_add fr q) ?_
                          refine E_callV (As := [_, _]) (ci := 11) (kc' := 0) (ks' := 0) (kc := 0) (ks := 0) dX12_cellar_154 ok_X12_losesAt w_X12_417 i_X12_losesAt s_X12_losesAt rfl (by decide) rfl (Nat.lt_of_lt_of_le (by decide) hN) rfl rfl rfl (Nat.le_of_ble_eq_true rfl) (Nat.le_of_ble_eq_true rfl) (Nat.le_refl _) (m_losesAt (d := 898) hT hB hN hR (by omega) (by omega) ?_)
                          refine E.top (clS_e a2) ?_
                          refine E_aload_n dX12_cellar_157 rfl ?_
                          refine E_getR dX12_cellar_158 f_X12_121 rfl (Nat.lt_of_lt_of_le (by decide) hN) rfl (hR _ _ _ rfl) ?_
                          refine E_iload dX12_cellar_161 rfl ?_
                          refine E_ic (nI 1) dX12_cellar_163 (by decide) ?_
                          refine E_iload dX12_cellar_164 rfl ?_
                          refine E_ishl dX12_cellar_166 ?_
                          refine E.top (shl1 _ (by omega)) ?_
                          refine E_ior dX12_cellar_167 ?_
                          refine E.top (nI_or (by omega) (by omega)) ?_
                          refine E_ialdN dX12_cellar_168 rfl (Nat.lt_of_lt_of_le (by decide) hN) (by omega) ?_
                          refine E.top (hrr _ (or_ltm a1 (by omega))) ?_
                          refine E_iadd dX12_cellar_169 ?_
                          refine E.top (nI_add (clS σ fr ((pthS (clS σ fr) (rtS (clS σ fr) m) m q).1) ((bnS (clS σ fr) (rtS (clS σ fr) m) (pthS (clS σ fr) (rtS (clS σ fr) m) m q).1 m).2)) ((rtS (clS σ fr) m) ((pthS (clS σ fr) (rtS (clS σ fr) m) m q).1 ||| 2 ^ ((bnS (clS σ fr) (rtS (clS σ fr) m) (pthS (clS σ fr) (rtS (clS σ fr) m) m q).1 m).2)))) ?_
                          refine E_aload_n dX12_cellar_170 rfl ?_
                          refine E_getR dX12_cellar_171 f_X12_121 rfl (Nat.lt_of_lt_of_le (by decide) hN) rfl (hR _ _ _ rfl) ?_
                          refine E_iload dX12_cellar_174 rfl ?_
                          refine E_ialdN dX12_cellar_176 rfl (Nat.lt_of_lt_of_le (by decide) hN) (by omega) ?_
                          refine E.top (hrr _ a1) ?_
                          refine E_cN_eq (a := (clS σ fr ((pthS (clS σ fr) (rtS (clS σ fr) m) m q).1) ((bnS (clS σ fr) (rtS (clS σ fr) m) (pthS (clS σ fr) (rtS (clS σ fr) m) m q).1 m).2)) + ((rtS (clS σ fr) m) ((pthS (clS σ fr) (rtS (clS σ fr) m) m q).1 ||| 2 ^ ((bnS (clS σ fr) (rtS (clS σ fr) m) (pthS (clS σ fr) (rtS (clS σ fr) m) m q).1 m).2)))) (b := (rtS (clS σ fr) m) ((pthS (clS σ fr) (rtS (clS σ fr) m) m q).1)) (tgt := 189) dX12_cellar_177 (by have := hbb _ _ a1 b1 b2; omega) (by omega) (by decide) (fun c177 => ?_) (fun c177 => absurd (b3.trans e0.symm) c177)
                          refine E_iload dX12_cellar_189 rfl ?_
                          refine E_ic (nI 1) dX12_cellar_191 (by decide) ?_
                          refine E_iload dX12_cellar_192 rfl ?_
                          refine E_ishl dX12_cellar_194 ?_
                          refine E.top (shl1 _ (by omega)) ?_
                          refine E_ior dX12_cellar_195 ?_
                          refine E.top (nI_or (by omega) (by omega)) ?_
                          refine E_istore dX12_cellar_196 (Nat.le_of_ble_eq_true rfl) ?_
                          refine E_incN dX12_cellar_198 rfl ?_
                          refine E_goto (tgt := 128) dX12_cellar_201 (by decide) ?_
                          exact ihq
                      · have w2 := Nat.pow_lt_pow_right (show 1 < 2 by decide) (show dd < 8 by omega)
                        have o1 := or_ltm a1 (show dd < m by omega)
                        have cw := hcb _ dd a1 (by omega)
                        refine E_iload dX12_cellar_137 rfl ?_
                        refine E_iload dX12_cellar_139 rfl ?_
                        refine E_callS (As := [_, _]) (kc' := 0) (ks' := 0) (kc := 0) (ks := 0) dX12_cellar_141 ok_X12_has w_X12_376 st_X12_has rfl rfl rfl (Nat.le_of_ble_eq_true rfl) (Nat.le_of_ble_eq_true rfl) (Nat.le_refl _) (m_has (fun hh => ?_) (fun hh => ?_))
                        · have hbt : (pthS (clS σ fr) (rtS (clS σ fr) m) m q).1 / 2 ^ dd % 2 = 1 := by rw [bitT (by omega) (by omega)] at hh; exact (nI_eq (by omega) (by decide)).mp hh
                          refine E_zN_ne (a := 1) (tgt := 180) dX12_cellar_144 (by decide) (by decide) (fun c144 => ?_) (fun c144 => absurd c144 (by omega))
                          refine E_iload dX12_cellar_180 rfl ?_
                          refine E_ic (nI 1) dX12_cellar_182 (by decide) ?_
                          refine E_iadd dX12_cellar_183 ?_
                          refine E.top (nI_add dd 1) ?_
                          refine E_istore dX12_cellar_184 (Nat.le_of_ble_eq_true rfl) ?_
                          refine E_goto (tgt := 137) dX12_cellar_186 (by decide) ?_
                          exact ihd
                        · have hbt : (pthS (clS σ fr) (rtS (clS σ fr) m) m q).1 / 2 ^ dd % 2 = 0 := by rcases bit_cases ((pthS (clS σ fr) (rtS (clS σ fr) m) m q).1) dd with z | z; exact z; exact absurd (by rw [bitT (by omega) (by omega), z]) hh
                          refine E_zN_ne (a := 0) (tgt := 180) dX12_cellar_144 (by decide) (by decide) (fun c144 => absurd c144 (by omega)) (fun c144 => ?_)
                          refine E_aload_n dX12_cellar_147 rfl ?_
                          refine E_iload dX12_cellar_148 rfl ?_
                          refine E_iload_n dX12_cellar_150 rfl ?_
                          refine E_iload dX12_cellar_151 rfl ?_
                          refine E_iadd dX12_cellar_153 ?_
                          refine E.top (nI_add fr q) ?_
                          refine E_callV (As := [_, _]) (ci := 11) (kc' := 0) (ks' := 0) (kc := 0) (ks := 0) dX12_cellar_154 ok_X12_losesAt w_X12_417 i_X12_losesAt s_X12_losesAt rfl (by decide) rfl (Nat.lt_of_lt_of_le (by decide) hN) rfl rfl rfl (Nat.le_of_ble_eq_true rfl) (Nat.le_of_ble_eq_true rfl) (Nat.le_refl _) (m_losesAt (d := 898) hT hB hN hR (by omega) (by omega) ?_)
                          refine E.top (clS_e a2) ?_
                          refine E_aload_n dX12_cellar_157 rfl ?_
                          refine E_getR dX12_cellar_158 f_X12_121 rfl (Nat.lt_of_lt_of_le (by decide) hN) rfl (hR _ _ _ rfl) ?_
                          refine E_iload dX12_cellar_161 rfl ?_
                          refine E_ic (nI 1) dX12_cellar_163 (by decide) ?_
                          refine E_iload dX12_cellar_164 rfl ?_
                          refine E_ishl dX12_cellar_166 ?_
                          refine E.top (shl1 _ (by omega)) ?_
                          refine E_ior dX12_cellar_167 ?_
                          refine E.top (nI_or (by omega) (by omega)) ?_
                          refine E_ialdN dX12_cellar_168 rfl (Nat.lt_of_lt_of_le (by decide) hN) (by omega) ?_
                          refine E.top (hrr _ (or_ltm a1 (by omega))) ?_
                          refine E_iadd dX12_cellar_169 ?_
                          refine E.top (nI_add (clS σ fr ((pthS (clS σ fr) (rtS (clS σ fr) m) m q).1) dd) ((rtS (clS σ fr) m) ((pthS (clS σ fr) (rtS (clS σ fr) m) m q).1 ||| 2 ^ dd))) ?_
                          refine E_aload_n dX12_cellar_170 rfl ?_
                          refine E_getR dX12_cellar_171 f_X12_121 rfl (Nat.lt_of_lt_of_le (by decide) hN) rfl (hR _ _ _ rfl) ?_
                          refine E_iload dX12_cellar_174 rfl ?_
                          refine E_ialdN dX12_cellar_176 rfl (Nat.lt_of_lt_of_le (by decide) hN) (by omega) ?_
                          refine E.top (hrr _ a1) ?_
                          refine E_cN_eq (a := (clS σ fr ((pthS (clS σ fr) (rtS (clS σ fr) m) m q).1) dd) + ((rtS (clS σ fr) m) ((pthS (clS σ fr) (rtS (clS σ fr) m) m q).1 ||| 2 ^ dd))) (b := (rtS (clS σ fr) m) ((pthS (clS σ fr) (rtS (clS σ fr) m) m q).1)) (tgt := 189) dX12_cellar_177 (by have := hbb _ dd a1 (by omega) hbt; omega) (by omega) (by decide) (fun c177 => absurd (c177.trans e0) (by have := b4 dd hdd hbt; omega)) (fun c177 => ?_)
                          refine E_iload dX12_cellar_180 rfl ?_
                          refine E_ic (nI 1) dX12_cellar_182 (by decide) ?_
                          refine E_iadd dX12_cellar_183 ?_
                          refine E.top (nI_add dd 1) ?_
                          refine E_istore dX12_cellar_184 (Nat.le_of_ble_eq_true rfl) ?_
                          refine E_goto (tgt := 137) dX12_cellar_186 (by decide) ?_
                          exact ihd
                    refine E_iload dX12_cellar_128 rfl ?_
                    refine E_iload_n dX12_cellar_130 rfl ?_
                    refine E_cN_gt (a := q) (b := k) (tgt := 204) dX12_cellar_131 (by omega) (by omega) (by decide) (fun c131 => absurd c131 (by omega)) (fun c131 => ?_)
                    refine E_ic (nI 0) dX12_cellar_134 (by decide) ?_
                    refine E_istore dX12_cellar_135 (Nat.le_of_ble_eq_true rfl) ?_
                    exact Ld 0 (Nat.zero_le _)
                have hT := hT1
                refine E_iload dX12_cellar_57 rfl ?_
                refine E_iload_n dX12_cellar_59 rfl ?_
                refine E_cN_ge (a := m) (b := m) (tgt := 100) dX12_cellar_60 (by omega) (by omega) (by decide) (fun c60 => ?_) (fun c60 => absurd c60 (by omega))
                refine E_aload_n dX12_cellar_100 rfl ?_
                refine E_iload_n dX12_cellar_101 rfl ?_
                refine E_iload_n dX12_cellar_102 rfl ?_
                refine E_callV (As := [_, _]) (ci := 11) (kc' := 0) (ks' := 0) (kc := 0) (ks := 0) dX12_cellar_103 ok_X12_laysLoss w_X12_420 i_X12_laysLoss s_X12_laysLoss rfl (by decide) rfl (Nat.lt_of_lt_of_le (by decide) hN) rfl rfl rfl (Nat.le_of_ble_eq_true rfl) (Nat.le_of_ble_eq_true rfl) (Nat.le_refl _) (m_laysLoss (d := 896) hT hB hN hR m1 m2 hm9 (by omega) hcb ?_)
                have hT : MT σ ((put (up2 I 114 7 (nI 0)) 151 256 (tbI (up2 I 114 7 (nI 0)) 151 (clS σ fr) m (2 ^ m - 1 - 0))) 121) := hT
                refine E_iload_n dX12_cellar_106 rfl ?_
                refine E_bp (nI 100) dX12_cellar_107 (by decide) ?_
                refine E_cN_ne (a := k) (b := 100) (tgt := 119) dX12_cellar_109 (by omega) (by decide) (by decide) (fun c109 => ?_) (fun c109 => absurd c109 (by omega))
                refine E_ic (nI 0) dX12_cellar_119 (by decide) ?_
                refine E_istore dX12_cellar_120 (Nat.le_of_ble_eq_true rfl) ?_
                refine E_ic (nI 0) dX12_cellar_122 (by decide) ?_
                refine E_istore dX12_cellar_123 (Nat.le_of_ble_eq_true rfl) ?_
                refine E_ic (nI 0) dX12_cellar_125 (by decide) ?_
                refine E_istore dX12_cellar_126 (Nat.le_of_ble_eq_true rfl) ?_
                exact Lq 0 (Nat.zero_le _)
              · have b8 := hB.2.2.2.2.1 (2 * j) (by omega)
                have b82 := hB.2.2.2.2.1 (2 * j + 1) (by omega)
                refine E_iload dX12_cellar_57 rfl ?_
                refine E_iload_n dX12_cellar_59 rfl ?_
                refine E_cN_ge (a := j) (b := m) (tgt := 100) dX12_cellar_60 (by omega) (by omega) (by decide) (fun c60 => absurd c60 (by omega)) (fun c60 => ?_)
                refine E_aload_n dX12_cellar_63 rfl ?_
                refine E_ic (nI 2) dX12_cellar_64 (by decide) ?_
                refine E_iload dX12_cellar_65 rfl ?_
                refine E_imul dX12_cellar_67 ?_
                refine E.top (pk_mul 2 j) ?_
                refine E_callV (As := [_]) (ci := 11) (kc' := 0) (ks' := 0) (kc := 0) (ks := 0) dX12_cellar_68 ok_X12_octet w_X12_387 i_X12_octet s_X12_octet rfl (by decide) rfl (Nat.lt_of_lt_of_le (by decide) hN) rfl rfl rfl (Nat.le_of_ble_eq_true rfl) (Nat.le_of_ble_eq_true rfl) (Nat.le_refl _) (m_octet (d := 899) hT hB hN hR (by omega) ?_)
                refine E_bp (nI 99) dX12_cellar_71 (by decide) ?_
                refine E_cN_gt (a := σ 8 (2 * j) 0) (b := 99) (tgt := 91) dX12_cellar_73 (by omega) (by decide) (by decide) (fun c73 => ?_) (fun c73 => ?_)
                · refine E_bp (-3) dX12_cellar_91 (by decide) ?_
                  exact E_iret dX12_cellar_93 rfl (by first | (rw [gd_t (show bdS σ m from ⟨j, hj, Or.inl c73⟩)] at hQ; exact hQ (up2 I 114 7 (nI 0)) J (u0_M hM) (fun a a1 => up2_o I 114 7 _ a (by omega)) rfl (fun a a1 _ => up2_o I 114 7 _ a (by omega))) | (rw [gd_t (show bdS σ m from ⟨j, hj, Or.inr c88⟩)] at hQ; exact hQ (up2 I 114 7 (nI 0)) J (u0_M hM) (fun a a1 => up2_o I 114 7 _ a (by omega)) rfl (fun a a1 _ => up2_o I 114 7 _ a (by omega))))
                · refine E_aload_n dX12_cellar_76 rfl ?_
                  refine E_ic (nI 2) dX12_cellar_77 (by decide) ?_
                  refine E_iload dX12_cellar_78 rfl ?_
                  refine E_imul dX12_cellar_80 ?_
                  refine E.top (pk_mul 2 j) ?_
                  refine E_ic (nI 1) dX12_cellar_81 (by decide) ?_
                  refine E_iadd dX12_cellar_82 ?_
                  refine E.top (nI_add (2 * j) 1) ?_
                  refine E_callV (As := [_]) (ci := 11) (kc' := 0) (ks' := 0) (kc := 0) (ks := 0) dX12_cellar_83 ok_X12_octet w_X12_387 i_X12_octet s_X12_octet rfl (by decide) rfl (Nat.lt_of_lt_of_le (by decide) hN) rfl rfl rfl (Nat.le_of_ble_eq_true rfl) (Nat.le_of_ble_eq_true rfl) (Nat.le_refl _) (m_octet (d := 899) hT hB hN hR (by omega) ?_)
                  refine E_bp (nI 50) dX12_cellar_86 (by decide) ?_
                  refine E_cN_le (a := σ 8 (2 * j + 1) 0) (b := 50) (tgt := 94) dX12_cellar_88 (by omega) (by decide) (by decide) (fun c88 => ?_) (fun c88 => ?_)
                  · refine E_incN dX12_cellar_94 rfl ?_
                    refine E_goto (tgt := 57) dX12_cellar_97 (by decide) ?_
                    exact ih (fun q2 h2 => by rcases Nat.lt_succ_iff_lt_or_eq.mp h2 with z | z; exact hc q2 z; subst z; exact ⟨c73, c88⟩)
                  · refine E_bp (-3) dX12_cellar_91 (by decide) ?_
                    exact E_iret dX12_cellar_93 rfl (by first | (rw [gd_t (show bdS σ m from ⟨j, hj, Or.inl c73⟩)] at hQ; exact hQ (up2 I 114 7 (nI 0)) J (u0_M hM) (fun a a1 => up2_o I 114 7 _ a (by omega)) rfl (fun a a1 _ => up2_o I 114 7 _ a (by omega))) | (rw [gd_t (show bdS σ m from ⟨j, hj, Or.inr c88⟩)] at hQ; exact hQ (up2 I 114 7 (nI 0)) J (u0_M hM) (fun a a1 => up2_o I 114 7 _ a (by omega)) rfl (fun a a1 _ => up2_o I 114 7 _ a (by omega))))
            refine E_iload_n dX12_cellar_0 rfl ?_
            refine E_ic (nI 1) dX12_cellar_1 (by decide) ?_
            refine E_bp (nI 8) dX12_cellar_2 (by decide) ?_
            refine E_callS (As := [_, _, _]) (kc' := 0) (ks' := 0) (kc := 0) (ks := 0) dX12_cellar_4 ok_X12_in w_X12_124 st_X12_in rfl rfl rfl (Nat.le_of_ble_eq_true rfl) (Nat.le_of_ble_eq_true rfl) (Nat.le_refl _) (M_in (x := nI m) (by decide) (by decide) (fun _ _ _ _ => ?_) (fun z => ?_))
            · skip
              refine E_zN_eq (a := 1) (tgt := 47) dX12_cellar_7 (by decide) (by decide) (fun c7 => absurd c7 (by omega)) (fun c7 => ?_)
              refine E_iload_n dX12_cellar_10 rfl ?_
              refine E_ic (nI 0) dX12_cellar_11 (by decide) ?_
              refine E_bp (nI 99) dX12_cellar_12 (by decide) ?_
              refine E_callS (As := [_, _, _]) (kc' := 0) (ks' := 0) (kc := 0) (ks := 0) dX12_cellar_14 ok_X12_in w_X12_124 st_X12_in rfl rfl rfl (Nat.le_of_ble_eq_true rfl) (Nat.le_of_ble_eq_true rfl) (Nat.le_refl _) (M_in (x := nI fr) (by decide) (by decide) (fun _ _ _ _ => ?_) (fun z => ?_))
              · skip
                refine E_zN_eq (a := 1) (tgt := 47) dX12_cellar_17 (by decide) (by decide) (fun c17 => absurd c17 (by omega)) (fun c17 => ?_)
                refine E_iload_n dX12_cellar_20 rfl ?_
                refine E_ic (nI 0) dX12_cellar_21 (by decide) ?_
                refine E_iload_n dX12_cellar_22 rfl ?_
                refine E_ic (nI 1) dX12_cellar_23 (by decide) ?_
                refine E_isub dX12_cellar_24 ?_
                refine E.top (pk_sub (a := m) (b := 1) (by omega)) ?_
                refine E_callS (As := [_, _, _]) (kc' := 0) (ks' := 0) (kc := 0) (ks := 0) dX12_cellar_25 ok_X12_in w_X12_124 st_X12_in rfl rfl rfl (Nat.le_of_ble_eq_true rfl) (Nat.le_of_ble_eq_true rfl) (Nat.le_refl _) (M_in (x := nI k) (by decide) (by omega) (fun _ _ _ _ => ?_) (fun z => ?_))
                · skip
                  refine E_zN_ne (a := 1) (tgt := 37) dX12_cellar_28 (by decide) (by decide) (fun c28 => ?_) (fun c28 => absurd c28 (by omega))
                  refine E_ic (nI 2) dX12_cellar_37 (by decide) ?_
                  refine E_iload_n dX12_cellar_38 rfl ?_
                  refine E_imul dX12_cellar_39 ?_
                  refine E.top (pk_mul 2 m) ?_
                  refine E_aload_n dX12_cellar_40 rfl ?_
                  refine E_getI dX12_cellar_41 f_X12_128 rfl (Nat.lt_of_lt_of_le (by decide) hN) rfl ?_
                  refine E.top (hM.2.2.2.1.1) ?_
                  refine E_cN_le (a := 2 * m) (b := σ 9 0 0) (tgt := 49) dX12_cellar_44 (by omega) (by omega) (by decide) (fun c44 => ?_) (fun c44 => absurd c44 (by omega))
                  refine E_aload_n dX12_cellar_49 rfl ?_
                  refine E_ic (nI 0) dX12_cellar_50 (by decide) ?_
                  refine E_putI dX12_cellar_51 f_X12_128 rfl (Nat.lt_of_lt_of_le (by decide) hN) rfl ?_
                  refine E_ic (nI 0) dX12_cellar_54 (by decide) ?_
                  refine E_istore dX12_cellar_55 (Nat.le_of_ble_eq_true rfl) ?_
                  exact Lc 0 (Nat.zero_le _) (fun q h => absurd h (Nat.not_lt_zero q))
                · skip
                  exact absurd rfl (z k (Nat.zero_le _) (by omega))
              · skip
                exact absurd rfl (z _ (by omega) (by omega))
            · skip
              exact absurd rfl (z _ (by omega) (by omega))
        · have hq := hNO (hng hm9)
          have hp0 := hp
          rcases hp0 with rfl | ⟨k, hk, rfl⟩
          · skip
            refine E_iload_n dX12_cellar_0 rfl ?_
            refine E_ic (nI 1) dX12_cellar_1 (by decide) ?_
            refine E_bp (nI 8) dX12_cellar_2 (by decide) ?_
            refine E_callS (As := [_, _, _]) (kc' := 0) (ks' := 0) (kc := 0) (ks := 0) dX12_cellar_4 ok_X12_in w_X12_124 st_X12_in rfl rfl rfl (Nat.le_of_ble_eq_true rfl) (Nat.le_of_ble_eq_true rfl) (Nat.le_refl _) (M_in (x := nI m) (by decide) (by decide) (fun _ _ _ _ => ?_) (fun z => ?_))
            · skip
              refine E_zN_eq (a := 1) (tgt := 47) dX12_cellar_7 (by decide) (by decide) (fun c7 => absurd c7 (by omega)) (fun c7 => ?_)
              refine E_iload_n dX12_cellar_10 rfl ?_
              refine E_ic (nI 0) dX12_cellar_11 (by decide) ?_
              refine E_bp (nI 99) dX12_cellar_12 (by decide) ?_
              refine E_callS (As := [_, _, _]) (kc' := 0) (ks' := 0) (kc := 0) (ks := 0) dX12_cellar_14 ok_X12_in w_X12_124 st_X12_in rfl rfl rfl (Nat.le_of_ble_eq_true rfl) (Nat.le_of_ble_eq_true rfl) (Nat.le_refl _) (M_in (x := nI fr) (by decide) (by decide) (fun _ _ _ _ => ?_) (fun z => ?_))
              · skip
                refine E_zN_eq (a := 1) (tgt := 47) dX12_cellar_17 (by decide) (by decide) (fun c17 => absurd c17 (by omega)) (fun c17 => ?_)
                refine E_iload_n dX12_cellar_20 rfl ?_
                refine E_ic (nI 0) dX12_cellar_21 (by decide) ?_
                refine E_iload_n dX12_cellar_22 rfl ?_
                refine E_ic (nI 1) dX12_cellar_23 (by decide) ?_
                refine E_isub dX12_cellar_24 ?_
                refine E.top (pk_sub (a := m) (b := 1) (by omega)) ?_
                refine E_callS (As := [_, _, _]) (kc' := 0) (ks' := 0) (kc := 0) (ks := 0) dX12_cellar_25 ok_X12_in w_X12_124 st_X12_in rfl rfl rfl (Nat.le_of_ble_eq_true rfl) (Nat.le_of_ble_eq_true rfl) (Nat.le_refl _) (M_in (x := nI 100) (by decide) (by omega) (fun k q1 q2 q3 => ?_) (fun z => ?_))
                · skip
                  exact absurd ((nI_eq (by decide) (by omega)).mp q3) (by omega)
                · skip
                  refine E_zN_ne (a := 0) (tgt := 37) dX12_cellar_28 (by decide) (by decide) (fun c28 => absurd c28 (by omega)) (fun c28 => ?_)
                  refine E_iload_n dX12_cellar_31 rfl ?_
                  refine E_bp (nI 100) dX12_cellar_32 (by decide) ?_
                  refine E_cN_ne (a := 100) (b := 100) (tgt := 47) dX12_cellar_34 (by decide) (by decide) (by decide) (fun c34 => absurd c34 (by omega)) (fun c34 => ?_)
                  refine E_ic (nI 2) dX12_cellar_37 (by decide) ?_
                  refine E_iload_n dX12_cellar_38 rfl ?_
                  refine E_imul dX12_cellar_39 ?_
                  refine E.top (pk_mul 2 m) ?_
                  refine E_aload_n dX12_cellar_40 rfl ?_
                  refine E_getI dX12_cellar_41 f_X12_128 rfl (Nat.lt_of_lt_of_le (by decide) hN) rfl ?_
                  refine E.top (hM.2.2.2.1.1) ?_
                  refine E_cN_le (a := 2 * m) (b := σ 9 0 0) (tgt := 49) dX12_cellar_44 (by omega) (by omega) (by decide) (fun c44 => absurd c44 (by omega)) (fun c44 => ?_)
                  refine E_ic (-1) dX12_cellar_47 (by decide) ?_
                  exact E_iret dX12_cellar_48 rfl (hq)
              · skip
                exact absurd rfl (z _ (by omega) (by omega))
            · skip
              exact absurd rfl (z _ (by omega) (by omega))
          · skip
            refine E_iload_n dX12_cellar_0 rfl ?_
            refine E_ic (nI 1) dX12_cellar_1 (by decide) ?_
            refine E_bp (nI 8) dX12_cellar_2 (by decide) ?_
            refine E_callS (As := [_, _, _]) (kc' := 0) (ks' := 0) (kc := 0) (ks := 0) dX12_cellar_4 ok_X12_in w_X12_124 st_X12_in rfl rfl rfl (Nat.le_of_ble_eq_true rfl) (Nat.le_of_ble_eq_true rfl) (Nat.le_refl _) (M_in (x := nI m) (by decide) (by decide) (fun _ _ _ _ => ?_) (fun z => ?_))
            · skip
              refine E_zN_eq (a := 1) (tgt := 47) dX12_cellar_7 (by decide) (by decide) (fun c7 => absurd c7 (by omega)) (fun c7 => ?_)
              refine E_iload_n dX12_cellar_10 rfl ?_
              refine E_ic (nI 0) dX12_cellar_11 (by decide) ?_
              refine E_bp (nI 99) dX12_cellar_12 (by decide) ?_
              refine E_callS (As := [_, _, _]) (kc' := 0) (ks' := 0) (kc := 0) (ks := 0) dX12_cellar_14 ok_X12_in w_X12_124 st_X12_in rfl rfl rfl (Nat.le_of_ble_eq_true rfl) (Nat.le_of_ble_eq_true rfl) (Nat.le_refl _) (M_in (x := nI fr) (by decide) (by decide) (fun _ _ _ _ => ?_) (fun z => ?_))
              · skip
                refine E_zN_eq (a := 1) (tgt := 47) dX12_cellar_17 (by decide) (by decide) (fun c17 => absurd c17 (by omega)) (fun c17 => ?_)
                refine E_iload_n dX12_cellar_20 rfl ?_
                refine E_ic (nI 0) dX12_cellar_21 (by decide) ?_
                refine E_iload_n dX12_cellar_22 rfl ?_
                refine E_ic (nI 1) dX12_cellar_23 (by decide) ?_
                refine E_isub dX12_cellar_24 ?_
                refine E.top (pk_sub (a := m) (b := 1) (by omega)) ?_
                refine E_callS (As := [_, _, _]) (kc' := 0) (ks' := 0) (kc := 0) (ks := 0) dX12_cellar_25 ok_X12_in w_X12_124 st_X12_in rfl rfl rfl (Nat.le_of_ble_eq_true rfl) (Nat.le_of_ble_eq_true rfl) (Nat.le_refl _) (M_in (x := nI k) (by decide) (by omega) (fun _ _ _ _ => ?_) (fun z => ?_))
                · skip
                  refine E_zN_ne (a := 1) (tgt := 37) dX12_cellar_28 (by decide) (by decide) (fun c28 => ?_) (fun c28 => absurd c28 (by omega))
                  refine E_ic (nI 2) dX12_cellar_37 (by decide) ?_
                  refine E_iload_n dX12_cellar_38 rfl ?_
                  refine E_imul dX12_cellar_39 ?_
                  refine E.top (pk_mul 2 m) ?_
                  refine E_aload_n dX12_cellar_40 rfl ?_
                  refine E_getI dX12_cellar_41 f_X12_128 rfl (Nat.lt_of_lt_of_le (by decide) hN) rfl ?_
                  refine E.top (hM.2.2.2.1.1) ?_
                  refine E_cN_le (a := 2 * m) (b := σ 9 0 0) (tgt := 49) dX12_cellar_44 (by omega) (by omega) (by decide) (fun c44 => absurd c44 (by omega)) (fun c44 => ?_)
                  refine E_ic (-1) dX12_cellar_47 (by decide) ?_
                  exact E_iret dX12_cellar_48 rfl (hq)
                · skip
                  exact absurd rfl (z k (Nat.zero_le _) (by omega))
              · skip
                exact absurd rfl (z _ (by omega) (by omega))
            · skip
              exact absurd rfl (z _ (by omega) (by omega))
      · have hq := hNO (fun ⟨m', ⟨a1, a2, a3, a4⟩, _, z⟩ => hp (by rw [(nI_eq (by omega) (by omega)).mp a3]; exact z))
        refine E_iload_n dX12_cellar_0 rfl ?_
        refine E_ic (nI 1) dX12_cellar_1 (by decide) ?_
        refine E_bp (nI 8) dX12_cellar_2 (by decide) ?_
        refine E_callS (As := [_, _, _]) (kc' := 0) (ks' := 0) (kc := 0) (ks := 0) dX12_cellar_4 ok_X12_in w_X12_124 st_X12_in rfl rfl rfl (Nat.le_of_ble_eq_true rfl) (Nat.le_of_ble_eq_true rfl) (Nat.le_refl _) (M_in (x := nI m) (by decide) (by decide) (fun _ _ _ _ => ?_) (fun z => ?_))
        · skip
          refine E_zN_eq (a := 1) (tgt := 47) dX12_cellar_7 (by decide) (by decide) (fun c7 => absurd c7 (by omega)) (fun c7 => ?_)
          refine E_iload_n dX12_cellar_10 rfl ?_
          refine E_ic (nI 0) dX12_cellar_11 (by decide) ?_
          refine E_bp (nI 99) dX12_cellar_12 (by decide) ?_
          refine E_callS (As := [_, _, _]) (kc' := 0) (ks' := 0) (kc := 0) (ks := 0) dX12_cellar_14 ok_X12_in w_X12_124 st_X12_in rfl rfl rfl (Nat.le_of_ble_eq_true rfl) (Nat.le_of_ble_eq_true rfl) (Nat.le_refl _) (M_in (x := nI fr) (by decide) (by decide) (fun _ _ _ _ => ?_) (fun z => ?_))
          · skip
            refine E_zN_eq (a := 1) (tgt := 47) dX12_cellar_17 (by decide) (by decide) (fun c17 => absurd c17 (by omega)) (fun c17 => ?_)
            refine E_iload_n dX12_cellar_20 rfl ?_
            refine E_ic (nI 0) dX12_cellar_21 (by decide) ?_
            refine E_iload_n dX12_cellar_22 rfl ?_
            refine E_ic (nI 1) dX12_cellar_23 (by decide) ?_
            refine E_isub dX12_cellar_24 ?_
            refine E.top (pk_sub (a := m) (b := 1) (by omega)) ?_
            refine E_callS (As := [_, _, _]) (kc' := 0) (ks' := 0) (kc := 0) (ks := 0) dX12_cellar_25 ok_X12_in w_X12_124 st_X12_in rfl rfl rfl (Nat.le_of_ble_eq_true rfl) (Nat.le_of_ble_eq_true rfl) (Nat.le_refl _) (M_in (by decide) (by omega) (fun k q1 q2 q3 => ?_) (fun z => ?_))
            · skip
              exact absurd (Or.inr ⟨k, by omega, q3⟩) hp
            · skip
              refine E_zN_ne (a := 0) (tgt := 37) dX12_cellar_28 (by decide) (by decide) (fun c28 => absurd c28 (by omega)) (fun c28 => ?_)
              refine E_iload_n dX12_cellar_31 rfl ?_
              refine E_bp (nI 100) dX12_cellar_32 (by decide) ?_
              refine E_icmp_ne (tgt := 47) dX12_cellar_34 (by decide) (fun c34 => ?_) (fun c34 => by first | exact absurd c34 (fun z => hp (Or.inl z)) | exact absurd (fun z => hp (Or.inl z)) c34)
              refine E_ic (-1) dX12_cellar_47 (by decide) ?_
              exact E_iret dX12_cellar_48 rfl (hq)
          · skip
            exact absurd rfl (z _ (by omega) (by omega))
        · skip
          exact absurd rfl (z _ (by omega) (by omega))
    · have hq := hNO (fun ⟨_, _, z, _⟩ => hw z)
      refine E_iload_n dX12_cellar_0 rfl ?_
      refine E_ic (nI 1) dX12_cellar_1 (by decide) ?_
      refine E_bp (nI 8) dX12_cellar_2 (by decide) ?_
      refine E_callS (As := [_, _, _]) (kc' := 0) (ks' := 0) (kc := 0) (ks := 0) dX12_cellar_4 ok_X12_in w_X12_124 st_X12_in rfl rfl rfl (Nat.le_of_ble_eq_true rfl) (Nat.le_of_ble_eq_true rfl) (Nat.le_refl _) (M_in (x := nI m) (by decide) (by decide) (fun _ _ _ _ => ?_) (fun z => ?_))
      · skip
        refine E_zN_eq (a := 1) (tgt := 47) dX12_cellar_7 (by decide) (by decide) (fun c7 => absurd c7 (by omega)) (fun c7 => ?_)
        refine E_iload_n dX12_cellar_10 rfl ?_
        refine E_ic (nI 0) dX12_cellar_11 (by decide) ?_
        refine E_bp (nI 99) dX12_cellar_12 (by decide) ?_
        refine E_callS (As := [_, _, _]) (kc' := 0) (ks' := 0) (kc := 0) (ks := 0) dX12_cellar_14 ok_X12_in w_X12_124 st_X12_in rfl rfl rfl (Nat.le_of_ble_eq_true rfl) (Nat.le_of_ble_eq_true rfl) (Nat.le_refl _) (M_in (by decide) (by decide) (fun m q1 q2 q3 => ?_) (fun z => ?_))
        · skip
          exact absurd ⟨m, q2, q3⟩ hw
        · skip
          refine E_zN_eq (a := 0) (tgt := 47) dX12_cellar_17 (by decide) (by decide) (fun c17 => ?_) (fun c17 => absurd c17 (by omega))
          refine E_ic (-1) dX12_cellar_47 (by decide) ?_
          exact E_iret dX12_cellar_48 rfl (hq)
      · skip
        exact absurd rfl (z _ (by omega) (by omega))
  · have hq := hNO (fun ⟨m, ⟨a1, a2, a3, a4⟩, _⟩ => hx ⟨m, a1, a2, a3⟩)
    refine E_iload_n dX12_cellar_0 rfl ?_
    refine E_ic (nI 1) dX12_cellar_1 (by decide) ?_
    refine E_bp (nI 8) dX12_cellar_2 (by decide) ?_
    refine E_callS (As := [_, _, _]) (kc' := 0) (ks' := 0) (kc := 0) (ks := 0) dX12_cellar_4 ok_X12_in w_X12_124 st_X12_in rfl rfl rfl (Nat.le_of_ble_eq_true rfl) (Nat.le_of_ble_eq_true rfl) (Nat.le_refl _) (M_in (by decide) (by decide) (fun m q1 q2 q3 => ?_) (fun z => ?_))
    · skip
      exact absurd ⟨m, q1, q2, q3⟩ hx
    · skip
      refine E_zN_eq (a := 0) (tgt := 47) dX12_cellar_7 (by decide) (by decide) (fun c7 => ?_) (fun c7 => absurd c7 (by omega))
      refine E_ic (-1) dX12_cellar_47 (by decide) ?_
      exact E_iret dX12_cellar_48 rfl (hq)
end PCellar
