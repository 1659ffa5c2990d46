/-! ===== pairs of the simple methods ===== -/
/-- what the law's relation may rest on -/
def LRok (LR : IM → Prop) : Prop := ∀ I I' : IM, (∀ a, 3 ≤ a → a ≤ 8 → I' a = I a) → I' 114 16 = I 114 16 → (∀ a, 128 ≤ a → a ≤ 132 → I' a = I a) → LR I → LR I'
def INV (LR : IM → Prop) : Nat → IM → JM → RM → Prop := fun n I _ R => ∃ σ : ST, BND σ ∧ XR σ n I R ∧ MR σ I ∧ LR I
theorem XN.n {n : Nat} {R : RM} (h : XN n R) : 152 ≤ n ∧ n ≤ 153 := by
  rcases h.2 with ⟨h, -⟩ | ⟨h, -⟩ <;> omega
/-- what a simple method of the class does -/
def SX (Mx : MD) (As : List Value) (sp : ST → Value) (up : ST → ST) : Prop := ∀ (g : GL) (n : Nat) (I : IM) (J : JM) (R : RM) (σ : ST) (Q : PQ), BND σ → XR σ n I R → (∀ (I' : IM) (J' : JM), XR (up σ) n I' R → (∀ a, 3 ≤ a → a ≤ 8 → I' a = I a) → (∀ a, 114 ≤ a → a < 152 → I' a = I a) → Q (some (sp σ)) n I' J' R) → E g Mx 900 0 0 0 (ent Mx.2.2.1 (.ref 0 :: As)) [] n I J R Q
def SM (Mm : MD) (As : List Value) (sp : ST → Value) (up : ST → ST) : Prop := ∀ (g : GL) (n : Nat) (I : IM) (J : JM) (R : RM) (σ : ST) (Q : PQ), BND σ → MR σ I → 152 ≤ n → RS R → (∀ (I' : IM) (J' : JM), MR (up σ) I' → (∀ a, a < 114 → I' a = I a) → I' 114 16 = I 114 16 → (∀ a, 128 ≤ a → a ≤ 132 → I' a = I a) → Q (some (sp σ)) n I' J' R) → E g Mm 900 0 0 0 (ent Mm.2.2.1 (.ref 114 :: As)) [] n I J R Q
theorem pair_of {LR : IM → Prop} (hLR : LRok LR) {Mx Mm : MD} {As : List Value} {vl : Value → Prop} (sp : ST → Value) (up : ST → ST) (hv : ∀ σ, vl (sp σ)) (hx : SX Mx As sp up) (hm : SM Mm As sp up) (hb : ∀ σ, BND σ → BND (up σ)) (g : GL) (n : Nat) (I : IM) (J : JM) (R : RM) (h : INV LR n I J R) : ∃ (r : Value) (P : Nat → IM → JM → RM → Prop) (kx sx : Nat), vl r ∧ kx ≤ 153 - n ∧ sx ≤ 49500 * (153 - n) ∧
  (∀ Q : PQ, (∀ n' I' J' R', 152 ≤ n' → n' ≤ 153 → kx + (153 - n') ≤ 153 - n → sx + 49500 * (153 - n') ≤ 49500 * (153 - n) → P n' I' J' R' → Q (some r) n' I' J' R') → E g Mx 900 kx sx 0 (ent Mx.2.2.1 (.ref 0 :: As)) [] n I J R Q) ∧
  ∀ n' I' J' R', P n' I' J' R' → ∀ Q : PQ, (∀ I2 J2 R2, INV LR n' I2 J2 R2 → Q (some r) n' I2 J2 R2) → E g Mm 900 0 0 0 (ent Mm.2.2.1 (.ref 114 :: As)) [] n' I' J' R' Q := by
  obtain ⟨σ, hB, hX, hM, hl⟩ := h
  have hn := hX.2.2.2.1.n
  refine ⟨sp σ, fun n' I' _ R' => n' = n ∧ R' = R ∧ XR (up σ) n I' R ∧ (∀ a, 3 ≤ a → a ≤ 8 → I' a = I a) ∧ (∀ a, 114 ≤ a → a < 152 → I' a = I a), 0, 0, hv σ, Nat.zero_le _, Nat.zero_le _, fun Q hQ => ?_, ?_⟩
  · exact hx g n I J R σ Q hB hX (fun I' J' h1 h2 h3 => hQ n I' J' R hn.1 hn.2 (by omega) (by omega) ⟨rfl, rfl, h1, h2, h3⟩)
  · rintro n' I' J' R' ⟨rfl, rfl, h1, h2, h3⟩ Q hQ
    refine hm g n' I' J' R' σ Q hB (hM.off h3) hn.1 h1.2.2.2.1.1 (fun I2 J2 m1 m2 m3 m4 => ?_)
    exact hQ I2 J2 R' ⟨up σ, hb σ hB, h1.off m2, m1, hLR I I2 (fun a a1 a2 => (m2 a (by omega)).trans (h2 a a1 a2)) (by rw [m3, h3 114 (by decide) (by decide)]) (fun a a1 a2 => (m4 a a1 a2).trans (h3 a (by omega) (by omega))) hl⟩
section PSimple
variable {g : GL} {d n : Nat} {I : IM} {J : JM} {R : RM} {Q : PQ}
set_option maxRecDepth 100000 in
set_option maxHeartbeats 1000000 in
theorem m_in {x lo hi : Int32} (ht : ¬ x < lo → ¬ hi < x → Q (some (.int 1)) n I J R) (hf : (x < lo ∨ hi < x) → Q (some (.int 0)) n I J R) : E g mX12_in d 0 0 0 (ent 3 [.int x, .int lo, .int hi]) [] n I J R Q := by
  refine E_iload_n dX12_in_0 rfl ?_
  refine E_iload_n dX12_in_1 rfl ?_
  refine E_icmp_lt (tgt := 14) dX12_in_2 (by decide) (fun c2 => ?_) (fun c2 => ?_)
  · refine E_ic (0) dX12_in_14 (by decide) ?_
    exact E_zret dX12_in_15 rfl (by decide) (by first | exact ht c2 c7 | exact hf (Or.inl c2) | exact hf (Or.inr c7))
  · refine E_iload_n dX12_in_5 rfl ?_
    refine E_iload_n dX12_in_6 rfl ?_
    refine E_icmp_gt (tgt := 14) dX12_in_7 (by decide) (fun c7 => ?_) (fun c7 => ?_)
    · refine E_ic (0) dX12_in_14 (by decide) ?_
      exact E_zret dX12_in_15 rfl (by decide) (by first | exact ht c2 c7 | exact hf (Or.inl c2) | exact hf (Or.inr c7))
    · refine E_ic (1) dX12_in_10 (by decide) ?_
      refine E_goto (tgt := 15) dX12_in_11 (by decide) ?_
      exact E_zret dX12_in_15 rfl (by decide) (by first | exact ht c2 c7 | exact hf (Or.inl c2) | exact hf (Or.inr c7))
def u_screw (x : Int32) (σ : ST) : ST := if (¬ x < 0 ∧ x ≤ 99) then ups σ 4 (fun i j => if i = 0 then x.toNatClampNeg else σ 4 i j) else σ
def r_screw (x : Int32) (_ : ST) : Value := .int (if (¬ x < 0 ∧ x ≤ 99) then 1 else 0)
set_option maxRecDepth 100000 in
set_option maxHeartbeats 1000000 in
theorem b_screw (x : Int32) : ∀ σ, BND σ → BND (u_screw x σ) := by
  intro σ h
  unfold u_screw
  split
  · rename_i hc
    obtain ⟨j, hj, rfl⟩ := i32_le x 99 (by decide) hc.1 hc.2
    obtain ⟨h1, ⟨h2, h3, h4⟩, h5, h6, h7⟩ := h
    refine ⟨h1, ?_, h5, h6, h7⟩
    refine ⟨?_, ?_, ?_⟩
    all_goals first | assumption | (show (nI j).toNatClampNeg ≤ _; rw [nI_clamp (by omega)]; exact hj)
  · exact h
set_option maxRecDepth 100000 in
set_option maxHeartbeats 1000000 in
theorem sx_screw (x : Int32) : SX mX11_screw [.int x] (r_screw x) (u_screw x) := by
  intro g n I J R σ Q hB hX hQ
  have hn := hX.2.2.2.1.n
  refine x_screw hn.1 (fun c1 c2 => ?_) (fun c => ?_)
  · have hc : (¬ x < 0 ∧ x ≤ 99) := ⟨c1, c2⟩
    obtain ⟨j, hj, rfl⟩ := i32_le x 99 (by decide) c1 c2
    have := hQ (up2 I 0 13 (nI j)) J ?_ (fun a a1 _ => up2_o I 0 13 _ a (by omega)) (fun a a1 _ => up2_o I 0 13 _ a (by omega))
    · unfold r_screw at this
      rw [if_pos hc] at this
      exact this
    · unfold u_screw
      rw [if_pos hc]
      obtain ⟨h1, ⟨k1, k2, k3, k4, k5⟩, h3, h4, h5⟩ := hX
      refine ⟨XW.congr (I := I) h1 (fun a _ _ => up2_o I 0 13 _ a (by omega)), ?_, ?_, h4, h5.congr (fun a _ _ => up2_o I 0 13 _ a (by omega))⟩
      · refine ⟨?_, ?_, ?_, ?_, ?_⟩
        all_goals first | exact k1 | exact k2 | exact k3 | exact k4 | exact k5 | (show nI j = nI (nI j).toNatClampNeg; rw [nI_clamp (by omega)])
      · exact h3
  · have hc : ¬ (¬ x < 0 ∧ x ≤ 99) := fun z => c.elim z.1 (fun y => y z.2)
    have := hQ I J ?_ (fun _ _ _ => rfl) (fun _ _ _ => rfl)
    · unfold r_screw at this
      rw [if_neg hc] at this
      exact this
    · unfold u_screw
      rw [if_neg hc]
      exact hX
set_option maxRecDepth 100000 in
set_option maxHeartbeats 1000000 in
theorem sm_screw (x : Int32) : SM mX12_screw [.int x] (r_screw x) (u_screw x) := by
  intro g n I J R σ Q hB hM hn hR hQ
  refine E_iload_n dX12_screw_0 rfl ?_
  refine E_ic (0) dX12_screw_1 (by decide) ?_
  refine E_bp (99) dX12_screw_2 (by decide) ?_
  refine E_callS (As := [_, _, _]) (kc' := 0) (ks' := 0) (kc := 0) (ks := 0) dX12_screw_4 ok_X12_in w_X12_124 st_X12_in rfl rfl rfl (Nat.le_of_ble_eq_true rfl) (Nat.le_of_ble_eq_true rfl) (Nat.le_refl _) (m_in (fun c1 c2 => ?_) (fun c => ?_))

  · have hc : (¬ x < 0 ∧ x ≤ 99) := ⟨c1, Int32.not_lt.mp c2⟩
    obtain ⟨j, hj, rfl⟩ := i32_le x 99 (by decide) hc.1 hc.2
    refine E_if_ne (tgt := 12) dX12_screw_7 (by decide) (fun c7 => ?_) (fun c7 => absurd c7 (by decide))
    refine E_aload_n dX12_screw_12 rfl ?_
    refine E_getR dX12_screw_13 f_X12_7 (by first | assumption | rfl) (by first | assumption | omega) rfl (by first | exact hR _ _ _ rfl | assumption) ?_
    refine E_bp (72) dX12_screw_16 (by decide) ?_
    refine E_iload_n dX12_screw_18 rfl ?_
    refine E_iastN (i := 72) dX12_screw_19 rfl (by omega) (by decide) ?_
    refine E_ic (1) dX12_screw_20 (by decide) ?_
    refine E_zret dX12_screw_21 rfl (by decide) ?_
    have := hQ (up2 I 115 72 (nI j)) J ?_ (fun a a1 => up2_o I 115 72 _ a (by omega)) (by rw [up2_o I 115 72 _ 114 (by decide)]) (fun a a1 _ => up2_o I 115 72 _ a (by omega))
    · unfold r_screw at this
      rw [if_pos hc] at this
      exact this
    · unfold u_screw
      rw [if_pos hc]
      obtain ⟨h1, ⟨k0, k1, k2, k3⟩, h3, h4, h5, h6⟩ := hM
      refine ⟨h1, ⟨fun k hk => ?_, ?_, ?_, ?_⟩, ?_, h4, h5, h6⟩
      · obtain ⟨q0, q1, q2, q3, q4, q5⟩ := k0 k hk
        rw [up2_k I _ (by omega), up2_k I _ (by omega), up2_k I _ (by omega), up2_k I _ (by omega), up2_k I _ (by omega), up2_k I _ (by omega)]
        exact ⟨q0, q1, q2, q3, q4, q5⟩
      all_goals first | exact k1 | exact k2 | exact k3 | (intro z; exact h3 z) | (show nI j = nI (nI j).toNatClampNeg; rw [nI_clamp (by omega)])
  · have hc : ¬ (¬ x < 0 ∧ x ≤ 99) := fun z => c.elim z.1 (fun y => absurd z.2 (Int32.not_le.mpr y))
    refine E_if_ne (tgt := 12) dX12_screw_7 (by decide) (fun c7 => absurd (rfl) c7) (fun c7 => ?_)
    refine E_ic (0) dX12_screw_10 (by decide) ?_
    refine E_zret dX12_screw_11 rfl (by decide) ?_
    have := hQ I J ?_ (fun _ _ => rfl) rfl (fun _ _ _ => rfl)
    · unfold r_screw at this
      rw [if_neg hc] at this
      exact this
    · unfold u_screw
      rw [if_neg hc]
      exact hM
def u_seed (x : Int32) (σ : ST) : ST := if (¬ x < 0 ∧ x ≤ 65535) then ups σ 4 (fun i j => if i = 2 then x.toNatClampNeg else σ 4 i j) else σ
def r_seed (x : Int32) (_ : ST) : Value := .int (if (¬ x < 0 ∧ x ≤ 65535) then 1 else 0)
set_option maxRecDepth 100000 in
set_option maxHeartbeats 1000000 in
theorem b_seed (x : Int32) : ∀ σ, BND σ → BND (u_seed x σ) := by
  intro σ h
  unfold u_seed
  split
  · rename_i hc
    obtain ⟨j, hj, rfl⟩ := i32_le x 65535 (by decide) hc.1 hc.2
    obtain ⟨h1, ⟨h2, h3, h4⟩, h5, h6, h7⟩ := h
    refine ⟨h1, ?_, h5, h6, h7⟩
    refine ⟨?_, ?_, ?_⟩
    all_goals first | assumption | (show (nI j).toNatClampNeg ≤ _; rw [nI_clamp (by omega)]; exact hj)
  · exact h
set_option maxRecDepth 100000 in
set_option maxHeartbeats 1000000 in
theorem sx_seed (x : Int32) : SX mX11_seed [.int x] (r_seed x) (u_seed x) := by
  intro g n I J R σ Q hB hX hQ
  have hn := hX.2.2.2.1.n
  refine x_seed hn.1 (fun c1 c2 => ?_) (fun c => ?_)
  · have hc : (¬ x < 0 ∧ x ≤ 65535) := ⟨c1, c2⟩
    obtain ⟨j, hj, rfl⟩ := i32_le x 65535 (by decide) c1 c2
    have := hQ (up2 I 0 15 (nI j)) J ?_ (fun a a1 _ => up2_o I 0 15 _ a (by omega)) (fun a a1 _ => up2_o I 0 15 _ a (by omega))
    · unfold r_seed at this
      rw [if_pos hc] at this
      exact this
    · unfold u_seed
      rw [if_pos hc]
      obtain ⟨h1, ⟨k1, k2, k3, k4, k5⟩, h3, h4, h5⟩ := hX
      refine ⟨XW.congr (I := I) h1 (fun a _ _ => up2_o I 0 15 _ a (by omega)), ?_, ?_, h4, h5.congr (fun a _ _ => up2_o I 0 15 _ a (by omega))⟩
      · refine ⟨?_, ?_, ?_, ?_, ?_⟩
        all_goals first | exact k1 | exact k2 | exact k3 | exact k4 | exact k5 | (show nI j = nI (nI j).toNatClampNeg; rw [nI_clamp (by omega)])
      · exact h3
  · have hc : ¬ (¬ x < 0 ∧ x ≤ 65535) := fun z => c.elim z.1 (fun y => y z.2)
    have := hQ I J ?_ (fun _ _ _ => rfl) (fun _ _ _ => rfl)
    · unfold r_seed at this
      rw [if_neg hc] at this
      exact this
    · unfold u_seed
      rw [if_neg hc]
      exact hX
set_option maxRecDepth 100000 in
set_option maxHeartbeats 1000000 in
theorem sm_seed (x : Int32) : SM mX12_seed [.int x] (r_seed x) (u_seed x) := by
  intro g n I J R σ Q hB hM hn hR hQ
  refine E_iload_n dX12_seed_0 rfl ?_
  refine E_ic (0) dX12_seed_1 (by decide) ?_
  refine E_ldcw (65535) dX12_seed_2 k_X12_375 ?_
  refine E_callS (As := [_, _, _]) (kc' := 0) (ks' := 0) (kc := 0) (ks := 0) dX12_seed_5 ok_X12_in w_X12_124 st_X12_in rfl rfl rfl (Nat.le_of_ble_eq_true rfl) (Nat.le_of_ble_eq_true rfl) (Nat.le_refl _) (m_in (fun c1 c2 => ?_) (fun c => ?_))

  · have hc : (¬ x < 0 ∧ x ≤ 65535) := ⟨c1, Int32.not_lt.mp c2⟩
    obtain ⟨j, hj, rfl⟩ := i32_le x 65535 (by decide) hc.1 hc.2
    refine E_if_ne (tgt := 13) dX12_seed_8 (by decide) (fun c8 => ?_) (fun c8 => absurd c8 (by decide))
    refine E_aload_n dX12_seed_13 rfl ?_
    refine E_getR dX12_seed_14 f_X12_7 (by first | assumption | rfl) (by first | assumption | omega) rfl (by first | exact hR _ _ _ rfl | assumption) ?_
    refine E_bp (74) dX12_seed_17 (by decide) ?_
    refine E_iload_n dX12_seed_19 rfl ?_
    refine E_iastN (i := 74) dX12_seed_20 rfl (by omega) (by decide) ?_
    refine E_ic (1) dX12_seed_21 (by decide) ?_
    refine E_zret dX12_seed_22 rfl (by decide) ?_
    have := hQ (up2 I 115 74 (nI j)) J ?_ (fun a a1 => up2_o I 115 74 _ a (by omega)) (by rw [up2_o I 115 74 _ 114 (by decide)]) (fun a a1 _ => up2_o I 115 74 _ a (by omega))
    · unfold r_seed at this
      rw [if_pos hc] at this
      exact this
    · unfold u_seed
      rw [if_pos hc]
      obtain ⟨h1, ⟨k0, k1, k2, k3⟩, h3, h4, h5, h6⟩ := hM
      refine ⟨h1, ⟨fun k hk => ?_, ?_, ?_, ?_⟩, ?_, h4, h5, h6⟩
      · obtain ⟨q0, q1, q2, q3, q4, q5⟩ := k0 k hk
        rw [up2_k I _ (by omega), up2_k I _ (by omega), up2_k I _ (by omega), up2_k I _ (by omega), up2_k I _ (by omega), up2_k I _ (by omega)]
        exact ⟨q0, q1, q2, q3, q4, q5⟩
      all_goals first | exact k1 | exact k2 | exact k3 | (intro z; exact h3 z) | (show nI j = nI (nI j).toNatClampNeg; rw [nI_clamp (by omega)])
  · have hc : ¬ (¬ x < 0 ∧ x ≤ 65535) := fun z => c.elim z.1 (fun y => absurd z.2 (Int32.not_le.mpr y))
    refine E_if_ne (tgt := 13) dX12_seed_8 (by decide) (fun c8 => absurd (rfl) c8) (fun c8 => ?_)
    refine E_ic (0) dX12_seed_11 (by decide) ?_
    refine E_zret dX12_seed_12 rfl (by decide) ?_
    have := hQ I J ?_ (fun _ _ => rfl) rfl (fun _ _ _ => rfl)
    · unfold r_seed at this
      rw [if_neg hc] at this
      exact this
    · unfold u_seed
      rw [if_neg hc]
      exact hM
end PSimple
