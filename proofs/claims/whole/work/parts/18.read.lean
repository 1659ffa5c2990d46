/-! ===== reading witnesses ===== -/
/-- the oldest YEAR, the youngest, the SINS, the first of a YEAR: m LAYERS from the i-th on -/
def oldS (f : Nat → Nat) : Nat → Nat → Int32 → Int32
  | 0, _, a => a
  | m + 1, i, a => oldS f m (i + 1) (if a = -2 then nI (f i) else imin a (nI (f i)))
def yngS (f : Nat → Nat) : Nat → Nat → Int32 → Int32
  | 0, _, a => a
  | m + 1, i, a => yngS f m (i + 1) (imax a (nI (f i)))
def sinS (f : Nat → Nat) : Nat → Nat → Int32 → Int32
  | 0, _, a => a
  | m + 1, i, a => sinS f m (i + 1) (a ||| ((1 : Int32) <<< (nI (f i) &&& 31)))
def nxtS (f : Nat → Nat) (y : Int32) : Nat → Nat → Int32
  | 0, _ => -1
  | m + 1, i => if nI (f i) = y then nI i else nxtS f y m (i + 1)
/-- told: a place, with LAYERS -/
abbrev tk (σ : ST) (x : Int32) : Prop := ¬ x < 0 ∧ ¬ 12 ≤ x ∧ 0 < σ 0 x.toNatClampNeg 0
theorem tk_of {σ : ST} {j : Nat} (hj : j < 12) (h : 0 < σ 0 j 0) : tk σ (nI j) := ⟨nI_pos (by omega), nI_ge hj (by decide), by rw [nI_clamp (by omega)]; exact h⟩
theorem tk_ex {σ : ST} {x : Int32} (h : tk σ x) : ∃ j, j < 12 ∧ x = nI j ∧ 0 < σ 0 j 0 := by
  rcases i32_ix x 12 (by decide) with h1 | ⟨j, hj, rfl⟩
  · exact absurd h1 (fun z => z.elim h.1 h.2.1)
  · exact ⟨j, hj, rfl, by have := h.2.2; rw [nI_clamp (by omega)] at this; exact this⟩
section PRead
variable {g : GL} {d n k : Nat} {I : IM} {J : JM} {R : RM} {Q : PQ} {σ : ST}
set_option maxRecDepth 100000 in
set_option maxHeartbeats 1000000 in
theorem l_oldestLeft (hB : BND σ) (hX : XR σ n I R) (hk : k < 12) : ∀ (m i : Nat) (a : Int32), i + m = σ 0 k 0 → Q (some (.int (oldS (σ 1 k) m i a))) n I J R → E g mX10_oldestLeft (d + 1) 0 0 11 [.ref (54 + 5 * k), .int a, .int (nI i)] [] n I J R Q := by
  have hn := hX.2.2.2.1.n
  have hR := hX.2.2.2.1.1
  obtain ⟨b1, b2, b3, b4⟩ := hB.1 k hk
  obtain ⟨w1, w2, w3, w4, -⟩ := hX.1 k hk
  have hw := RTw k hk
  obtain ⟨t9, t20, t20b, t7, t7b⟩ := LYw k hk
  intro m
  induction m with
  | zero =>
    intro i a hi hQ
    have hi : i = σ 0 k 0 := hi
    rw [← hi] at w1
    refine E_iload_n dX10_oldestLeft_11 rfl ?_
    refine E_aload_n dX10_oldestLeft_12 rfl ?_
    refine E_getI dX10_oldestLeft_13 f_X10_28 t9 (by first | assumption | omega) rfl ?_
    refine E.top w1 ?_
    refine E_icmp_ge (tgt := 51) dX10_oldestLeft_16 (by decide) (fun c16 => ?_) (fun c16 => absurd (Int32.le_refl _) c16)
    refine E_iload_n dX10_oldestLeft_51 rfl ?_
    exact E_iret dX10_oldestLeft_52 rfl (hQ)
  | succ m ih =>
    intro i a hi hQ
    have hlt : i < σ 0 k 0 := by omega
    refine E_iload_n dX10_oldestLeft_11 rfl ?_
    refine E_aload_n dX10_oldestLeft_12 rfl ?_
    refine E_getI dX10_oldestLeft_13 f_X10_28 t9 (by first | assumption | omega) rfl ?_
    refine E.top w1 ?_
    refine E_icmp_ge (tgt := 51) dX10_oldestLeft_16 (by decide) (fun c16 => absurd c16 (nI_ge hlt (by omega))) (fun c16 => ?_)
    refine E_iload_n dX10_oldestLeft_19 rfl ?_
    refine E_bp (-2) dX10_oldestLeft_20 (by decide) ?_
    refine E_icmp_ne (tgt := 34) dX10_oldestLeft_22 (by decide) (fun c22 => ?_) (fun c22 => ?_)
    · refine E_iload_n dX10_oldestLeft_34 rfl ?_
      refine E_aload_n dX10_oldestLeft_35 rfl ?_
      refine E_getR dX10_oldestLeft_36 f_X10_9 t9 (by first | assumption | omega) rfl (hR _ _ _ hw.1) ?_
      refine E_iload_n dX10_oldestLeft_39 rfl ?_
      refine E_ialdN dX10_oldestLeft_40 t20 (by omega) (by omega) ?_
      refine E.top (w3 i hlt).1 ?_
      refine E_mmin dX10_oldestLeft_41 w_X10_36 (Nat.le_of_ble_eq_true rfl) (by omega) ?_
      refine E_istore_n dX10_oldestLeft_44 (Nat.le_of_ble_eq_true rfl) ?_
      refine E_incN dX10_oldestLeft_45 rfl ?_
      refine E_goto (tgt := 11) dX10_oldestLeft_48 (by decide) ?_
      exact ih (i + 1) _ (by omega) (by rw [oldS] at hQ; first | (rw [if_neg c22] at hQ; exact hQ) | (rw [if_pos c22] at hQ; exact hQ))
    · refine E_aload_n dX10_oldestLeft_25 rfl ?_
      refine E_getR dX10_oldestLeft_26 f_X10_9 t9 (by first | assumption | omega) rfl (hR _ _ _ hw.1) ?_
      refine E_iload_n dX10_oldestLeft_29 rfl ?_
      refine E_ialdN dX10_oldestLeft_30 t20 (by omega) (by omega) ?_
      refine E.top (w3 i hlt).1 ?_
      refine E_goto (tgt := 44) dX10_oldestLeft_31 (by decide) ?_
      refine E_istore_n dX10_oldestLeft_44 (Nat.le_of_ble_eq_true rfl) ?_
      refine E_incN dX10_oldestLeft_45 rfl ?_
      refine E_goto (tgt := 11) dX10_oldestLeft_48 (by decide) ?_
      exact ih (i + 1) _ (by omega) (by rw [oldS] at hQ; first | (rw [if_neg c22] at hQ; exact hQ) | (rw [if_pos c22] at hQ; exact hQ))
set_option maxRecDepth 100000 in
set_option maxHeartbeats 1000000 in
theorem x_oldestLeft (hB : BND σ) (hX : XR σ n I R) (hk : k < 12) (hQ : Q (some (.int (oldS (σ 1 k) (σ 0 k 0 - σ 3 k 3) (σ 3 k 3) (-2)))) n I J R) : E g mX10_oldestLeft (d + 1) 0 0 0 (ent 3 [.ref (54 + 5 * k)]) [] n I J R Q := by
  have hn := hX.2.2.2.1.n
  have hR := hX.2.2.2.1.1
  obtain ⟨b1, b2, b3, b4⟩ := hB.1 k hk
  obtain ⟨w1, w2, w3, w4, -⟩ := hX.1 k hk
  have hw := RTw k hk
  obtain ⟨t9, t20, t20b, t7, t7b⟩ := LYw k hk
  refine E_bp (-2) dX10_oldestLeft_0 (by decide) ?_
  refine E_istore_n dX10_oldestLeft_2 (Nat.le_of_ble_eq_true rfl) ?_
  refine E_aload_n dX10_oldestLeft_3 rfl ?_
  refine E_getR dX10_oldestLeft_4 f_X10_21 t9 (by first | assumption | omega) rfl (hR _ _ _ hw.2.2.1) ?_
  refine E_getI dX10_oldestLeft_7 f_X10_49 t7 (by first | assumption | omega) rfl ?_
  refine E.top (w4 3 (by decide)) ?_
  refine E_istore_n dX10_oldestLeft_10 (Nat.le_of_ble_eq_true rfl) ?_
  exact l_oldestLeft hB hX hk _ _ _ (by omega) hQ
set_option maxRecDepth 100000 in
set_option maxHeartbeats 1000000 in
theorem l_youngestLeft (hB : BND σ) (hX : XR σ n I R) (hk : k < 12) : ∀ (m i : Nat) (a : Int32), i + m = σ 0 k 0 → Q (some (.int (yngS (σ 1 k) m i a))) n I J R → E g mX10_youngestLeft (d + 1) 0 0 11 [.ref (54 + 5 * k), .int a, .int (nI i)] [] n I J R Q := by
  have hn := hX.2.2.2.1.n
  have hR := hX.2.2.2.1.1
  obtain ⟨b1, b2, b3, b4⟩ := hB.1 k hk
  obtain ⟨w1, w2, w3, w4, -⟩ := hX.1 k hk
  have hw := RTw k hk
  obtain ⟨t9, t20, t20b, t7, t7b⟩ := LYw k hk
  intro m
  induction m with
  | zero =>
    intro i a hi hQ
    have hi : i = σ 0 k 0 := hi
    rw [← hi] at w1
    refine E_iload_n dX10_youngestLeft_11 rfl ?_
    refine E_aload_n dX10_youngestLeft_12 rfl ?_
    refine E_getI dX10_youngestLeft_13 f_X10_28 t9 (by first | assumption | omega) rfl ?_
    refine E.top w1 ?_
    refine E_icmp_ge (tgt := 36) dX10_youngestLeft_16 (by decide) (fun c16 => ?_) (fun c16 => absurd (Int32.le_refl _) c16)
    refine E_iload_n dX10_youngestLeft_36 rfl ?_
    exact E_iret dX10_youngestLeft_37 rfl (hQ)
  | succ m ih =>
    intro i a hi hQ
    have hlt : i < σ 0 k 0 := by omega
    refine E_iload_n dX10_youngestLeft_11 rfl ?_
    refine E_aload_n dX10_youngestLeft_12 rfl ?_
    refine E_getI dX10_youngestLeft_13 f_X10_28 t9 (by first | assumption | omega) rfl ?_
    refine E.top w1 ?_
    refine E_icmp_ge (tgt := 36) dX10_youngestLeft_16 (by decide) (fun c16 => absurd c16 (nI_ge hlt (by omega))) (fun c16 => ?_)
    refine E_iload_n dX10_youngestLeft_19 rfl ?_
    refine E_aload_n dX10_youngestLeft_20 rfl ?_
    refine E_getR dX10_youngestLeft_21 f_X10_9 t9 (by first | assumption | omega) rfl (hR _ _ _ hw.1) ?_
    refine E_iload_n dX10_youngestLeft_24 rfl ?_
    refine E_ialdN dX10_youngestLeft_25 t20 (by omega) (by omega) ?_
    refine E.top (w3 i hlt).1 ?_
    refine E_mmax dX10_youngestLeft_26 w_X10_52 (Nat.le_of_ble_eq_true rfl) (by omega) ?_
    refine E_istore_n dX10_youngestLeft_29 (Nat.le_of_ble_eq_true rfl) ?_
    refine E_incN dX10_youngestLeft_30 rfl ?_
    refine E_goto (tgt := 11) dX10_youngestLeft_33 (by decide) ?_
    exact ih (i + 1) _ (by omega) hQ
set_option maxRecDepth 100000 in
set_option maxHeartbeats 1000000 in
theorem x_youngestLeft (hB : BND σ) (hX : XR σ n I R) (hk : k < 12) (hQ : Q (some (.int (yngS (σ 1 k) (σ 0 k 0 - σ 3 k 3) (σ 3 k 3) (-2)))) n I J R) : E g mX10_youngestLeft (d + 1) 0 0 0 (ent 3 [.ref (54 + 5 * k)]) [] n I J R Q := by
  have hn := hX.2.2.2.1.n
  have hR := hX.2.2.2.1.1
  obtain ⟨b1, b2, b3, b4⟩ := hB.1 k hk
  obtain ⟨w1, w2, w3, w4, -⟩ := hX.1 k hk
  have hw := RTw k hk
  obtain ⟨t9, t20, t20b, t7, t7b⟩ := LYw k hk
  refine E_bp (-2) dX10_youngestLeft_0 (by decide) ?_
  refine E_istore_n dX10_youngestLeft_2 (Nat.le_of_ble_eq_true rfl) ?_
  refine E_aload_n dX10_youngestLeft_3 rfl ?_
  refine E_getR dX10_youngestLeft_4 f_X10_21 t9 (by first | assumption | omega) rfl (hR _ _ _ hw.2.2.1) ?_
  refine E_getI dX10_youngestLeft_7 f_X10_49 t7 (by first | assumption | omega) rfl ?_
  refine E.top (w4 3 (by decide)) ?_
  refine E_istore_n dX10_youngestLeft_10 (Nat.le_of_ble_eq_true rfl) ?_
  exact l_youngestLeft hB hX hk _ _ _ (by omega) hQ
set_option maxRecDepth 100000 in
set_option maxHeartbeats 1000000 in
theorem l_sinsLeft (hB : BND σ) (hX : XR σ n I R) (hk : k < 12) : ∀ (m i : Nat) (a : Int32), i + m = σ 0 k 0 → Q (some (.int (sinS (σ 2 k) m i a))) n I J R → E g mX10_sinsLeft (d + 1) 0 0 10 [.ref (54 + 5 * k), .int a, .int (nI i)] [] n I J R Q := by
  have hn := hX.2.2.2.1.n
  have hR := hX.2.2.2.1.1
  obtain ⟨b1, b2, b3, b4⟩ := hB.1 k hk
  obtain ⟨w1, w2, w3, w4, -⟩ := hX.1 k hk
  have hw := RTw k hk
  obtain ⟨t9, t20, t20b, t7, t7b⟩ := LYw k hk
  intro m
  induction m with
  | zero =>
    intro i a hi hQ
    have hi : i = σ 0 k 0 := hi
    rw [← hi] at w1
    refine E_iload_n dX10_sinsLeft_10 rfl ?_
    refine E_aload_n dX10_sinsLeft_11 rfl ?_
    refine E_getI dX10_sinsLeft_12 f_X10_28 t9 (by first | assumption | omega) rfl ?_
    refine E.top w1 ?_
    refine E_icmp_ge (tgt := 35) dX10_sinsLeft_15 (by decide) (fun c15 => ?_) (fun c15 => absurd (Int32.le_refl _) c15)
    refine E_iload_n dX10_sinsLeft_35 rfl ?_
    exact E_iret dX10_sinsLeft_36 rfl (hQ)
  | succ m ih =>
    intro i a hi hQ
    have hlt : i < σ 0 k 0 := by omega
    refine E_iload_n dX10_sinsLeft_10 rfl ?_
    refine E_aload_n dX10_sinsLeft_11 rfl ?_
    refine E_getI dX10_sinsLeft_12 f_X10_28 t9 (by first | assumption | omega) rfl ?_
    refine E.top w1 ?_
    refine E_icmp_ge (tgt := 35) dX10_sinsLeft_15 (by decide) (fun c15 => absurd c15 (nI_ge hlt (by omega))) (fun c15 => ?_)
    refine E_iload_n dX10_sinsLeft_18 rfl ?_
    refine E_ic (1) dX10_sinsLeft_19 (by decide) ?_
    refine E_aload_n dX10_sinsLeft_20 rfl ?_
    refine E_getR dX10_sinsLeft_21 f_X10_15 t9 (by first | assumption | omega) rfl (hR _ _ _ hw.2.1) ?_
    refine E_iload_n dX10_sinsLeft_24 rfl ?_
    refine E_ialdN dX10_sinsLeft_25 t20b (by omega) (by omega) ?_
    refine E.top (w3 i hlt).2 ?_
    refine E_ishl dX10_sinsLeft_26 ?_
    refine E_ior dX10_sinsLeft_27 ?_
    refine E_istore_n dX10_sinsLeft_28 (Nat.le_of_ble_eq_true rfl) ?_
    refine E_incN dX10_sinsLeft_29 rfl ?_
    refine E_goto (tgt := 10) dX10_sinsLeft_32 (by decide) ?_
    exact ih (i + 1) _ (by omega) hQ
set_option maxRecDepth 100000 in
set_option maxHeartbeats 1000000 in
theorem x_sinsLeft (hB : BND σ) (hX : XR σ n I R) (hk : k < 12) (hQ : Q (some (.int (sinS (σ 2 k) (σ 0 k 0 - σ 3 k 3) (σ 3 k 3) (0)))) n I J R) : E g mX10_sinsLeft (d + 1) 0 0 0 (ent 3 [.ref (54 + 5 * k)]) [] n I J R Q := by
  have hn := hX.2.2.2.1.n
  have hR := hX.2.2.2.1.1
  obtain ⟨b1, b2, b3, b4⟩ := hB.1 k hk
  obtain ⟨w1, w2, w3, w4, -⟩ := hX.1 k hk
  have hw := RTw k hk
  obtain ⟨t9, t20, t20b, t7, t7b⟩ := LYw k hk
  refine E_ic (0) dX10_sinsLeft_0 (by decide) ?_
  refine E_istore_n dX10_sinsLeft_1 (Nat.le_of_ble_eq_true rfl) ?_
  refine E_aload_n dX10_sinsLeft_2 rfl ?_
  refine E_getR dX10_sinsLeft_3 f_X10_21 t9 (by first | assumption | omega) rfl (hR _ _ _ hw.2.2.1) ?_
  refine E_getI dX10_sinsLeft_6 f_X10_49 t7 (by first | assumption | omega) rfl ?_
  refine E.top (w4 3 (by decide)) ?_
  refine E_istore_n dX10_sinsLeft_9 (Nat.le_of_ble_eq_true rfl) ?_
  exact l_sinsLeft hB hX hk _ _ _ (by omega) hQ
set_option maxRecDepth 100000 in
set_option maxHeartbeats 1000000 in
theorem l_nextOf (hB : BND σ) (hX : XR σ n I R) (hk : k < 12) {y : Int32} : ∀ (m i : Nat), i + m = σ 0 k 0 → Q (some (.int (nxtS (σ 1 k) y m i))) n I J R → E g mX10_nextOf d 0 0 8 [.ref (54 + 5 * k), .int y, .int (nI i)] [] n I J R Q := by
  have hn := hX.2.2.2.1.n
  have hR := hX.2.2.2.1.1
  obtain ⟨b1, b2, b3, b4⟩ := hB.1 k hk
  obtain ⟨w1, w2, w3, w4, -⟩ := hX.1 k hk
  have hw := RTw k hk
  obtain ⟨t9, t20, t20b, t7, t7b⟩ := LYw k hk
  intro m
  induction m with
  | zero =>
    intro i hi hQ
    have hi : i = σ 0 k 0 := hi
    rw [← hi] at w1
    refine E_iload_n dX10_nextOf_8 rfl ?_
    refine E_aload_n dX10_nextOf_9 rfl ?_
    refine E_getI dX10_nextOf_10 f_X10_28 t9 (by first | assumption | omega) rfl ?_
    refine E.top w1 ?_
    refine E_icmp_ge (tgt := 34) dX10_nextOf_13 (by decide) (fun c13 => ?_) (fun c13 => absurd (Int32.le_refl _) c13)
    refine E_ic (-1) dX10_nextOf_34 (by decide) ?_
    exact E_iret dX10_nextOf_35 rfl (hQ)
  | succ m ih =>
    intro i hi hQ
    have hlt : i < σ 0 k 0 := by omega
    rw [nxtS] at hQ
    refine E_iload_n dX10_nextOf_8 rfl ?_
    refine E_aload_n dX10_nextOf_9 rfl ?_
    refine E_getI dX10_nextOf_10 f_X10_28 t9 (by first | assumption | omega) rfl ?_
    refine E.top w1 ?_
    refine E_icmp_ge (tgt := 34) dX10_nextOf_13 (by decide) (fun c13 => absurd c13 (nI_ge hlt (by omega))) (fun c13 => ?_)
    refine E_aload_n dX10_nextOf_16 rfl ?_
    refine E_getR dX10_nextOf_17 f_X10_9 t9 (by first | assumption | omega) rfl (hR _ _ _ hw.1) ?_
    refine E_iload_n dX10_nextOf_20 rfl ?_
    refine E_ialdN dX10_nextOf_21 t20 (by omega) (by omega) ?_
    refine E.top (w3 i hlt).1 ?_
    refine E_iload_n dX10_nextOf_22 rfl ?_
    refine E_icmp_ne (tgt := 28) dX10_nextOf_23 (by decide) (fun c23 => ?_) (fun c23 => ?_)
    · refine E_incN dX10_nextOf_28 rfl ?_
      refine E_goto (tgt := 8) dX10_nextOf_31 (by decide) ?_
      exact ih (i + 1) (by omega) (by rw [if_neg c23] at hQ; exact hQ)
    · refine E_iload_n dX10_nextOf_26 rfl ?_
      exact E_iret dX10_nextOf_27 rfl (by rw [if_pos c23] at hQ; exact hQ)
set_option maxRecDepth 100000 in
set_option maxHeartbeats 1000000 in
theorem x_nextOf (hB : BND σ) (hX : XR σ n I R) (hk : k < 12) {y : Int32} (hQ : Q (some (.int (nxtS (σ 1 k) y (σ 0 k 0 - σ 3 k 3) (σ 3 k 3)))) n I J R) : E g mX10_nextOf d 0 0 0 (ent 3 [.ref (54 + 5 * k), .int y]) [] n I J R Q := by
  have hn := hX.2.2.2.1.n
  have hR := hX.2.2.2.1.1
  obtain ⟨b1, b2, b3, b4⟩ := hB.1 k hk
  obtain ⟨w1, w2, w3, w4, -⟩ := hX.1 k hk
  have hw := RTw k hk
  obtain ⟨t9, t20, t20b, t7, t7b⟩ := LYw k hk
  refine E_aload_n dX10_nextOf_0 rfl ?_
  refine E_getR dX10_nextOf_1 f_X10_21 t9 (by first | assumption | omega) rfl (hR _ _ _ hw.2.2.1) ?_
  refine E_getI dX10_nextOf_4 f_X10_49 t7 (by first | assumption | omega) rfl ?_
  refine E.top (w4 3 (by decide)) ?_
  refine E_istore_n dX10_nextOf_7 (Nat.le_of_ble_eq_true rfl) ?_
  exact l_nextOf hB hX hk _ _ (by omega) hQ
set_option maxRecDepth 100000 in
set_option maxHeartbeats 1000000 in
theorem X_isTold {x : Int32} (hB : BND σ) (hX : XR σ n I R) (ht : ∀ j, j < 12 → x = nI j → 0 < σ 0 j 0 → Q (some (.int 1)) n I J R) (hf : ¬ tk σ x → Q (some (.int 0)) n I J R) : E g mX11_isTold d 0 0 0 (ent 2 [.ref 0, .int x]) [] n I J R Q := by
  have hn := hX.2.2.2.1.n
  have key : ∀ j, j < 12 → (¬ I (54 + 5 * j) 5 = 0 ↔ 0 < σ 0 j 0) := by
    intro j hj
    obtain ⟨b1, -⟩ := hB.1 j hj
    rw [(hX.1 j hj).2.1]
    constructor
    · intro h
      rcases Nat.eq_zero_or_pos (σ 0 j 0) with z | z
      · exact absurd (by rw [z]; rfl) h
      · exact z
    · intro h z
      rw [Nat.min_eq_left (by omega)] at z
      exact absurd z (by decide)
  refine x_isTold hn.1 hX.2.2.2.1.1 (fun j hj e z => ht j hj e ((key j hj).mp z)) (fun z => hf (fun y => z ?_))
  obtain ⟨j, hj, e, p⟩ := tk_ex y
  exact ⟨j, hj, e, (key j hj).mpr p⟩
set_option maxRecDepth 100000 in
set_option maxHeartbeats 1000000 in
theorem m_at {i : Nat} (hQ : Q (some (.int (nI (24 * k + i)))) n I J R) : E g mX12_at d 0 0 0 (ent 2 [.int (nI k), .int (nI i)]) [] n I J R Q := by
  have e : (24 : Int32) * nI k + nI i = nI (24 * k + i) := by rw [show (24 : Int32) = nI 24 from rfl, pk_mul, nI_add]
  refine E_bp (24) dX12_at_0 (by decide) ?_
  refine E_iload_n dX12_at_2 rfl ?_
  refine E_imul dX12_at_3 ?_
  refine E_iload_n dX12_at_4 rfl ?_
  refine E_iadd dX12_at_5 ?_
  refine E.top e ?_
  exact E_iret dX12_at_6 rfl (hQ)
set_option maxRecDepth 100000 in
set_option maxHeartbeats 1000000 in
theorem l_yearLeft1 (hB : BND σ) (hM : MR σ I) (hN : 152 ≤ n) (hR : RS R) (hk : k < 12) : ∀ (m i : Nat) (a : Int32), i + m = σ 0 k 0 → Q (some (.int (oldS (σ 1 k) m i a))) n I J R → E g mX12_yearLeft (d + 1) 0 0 14 [.ref 114, .int (nI k), .int 1, .int a, .int (nI i), jk] [] n I J R Q := by
  obtain ⟨b1, b2, b3, b4⟩ := hB.1 k hk
  obtain ⟨w1, w3⟩ := hM.1 k hk
  obtain ⟨f0, f1, f2, f3, f4, f5⟩ := hM.2.1.1 k hk
  intro m
  induction m with
  | zero =>
    intro i a hi hQ
    have hi : i = σ 0 k 0 := hi
    rw [← hi] at w1
    refine E_iload dX12_yearLeft_14 rfl ?_
    refine E_aload_n dX12_yearLeft_16 rfl ?_
    refine E_getR dX12_yearLeft_17 f_X12_19 (by first | assumption | rfl) (by first | assumption | omega) rfl (by first | exact hR _ _ _ rfl | assumption) ?_
    refine E_iload_n dX12_yearLeft_20 rfl ?_
    refine E_ialdN dX12_yearLeft_21 rfl (by omega) hk ?_
    refine E.top w1 ?_
    refine E_icmp_ge (tgt := 72) dX12_yearLeft_22 (by decide) (fun c22 => ?_) (fun c22 => absurd (Int32.le_refl _) c22)
    refine E_iload_n dX12_yearLeft_72 rfl ?_
    exact E_iret dX12_yearLeft_73 rfl (hQ)
  | succ m ih =>
    intro i a hi hQ
    have hlt : i < σ 0 k 0 := by omega
    have hy := (b2 i hlt).1
    refine E_iload dX12_yearLeft_14 rfl ?_
    refine E_aload_n dX12_yearLeft_16 rfl ?_
    refine E_getR dX12_yearLeft_17 f_X12_19 (by first | assumption | rfl) (by first | assumption | omega) rfl (by first | exact hR _ _ _ rfl | assumption) ?_
    refine E_iload_n dX12_yearLeft_20 rfl ?_
    refine E_ialdN dX12_yearLeft_21 rfl (by omega) hk ?_
    refine E.top w1 ?_
    refine E_icmp_ge (tgt := 72) dX12_yearLeft_22 (by decide) (fun c22 => absurd c22 (nI_ge hlt (by omega))) (fun c22 => ?_)
    refine E_aload_n dX12_yearLeft_25 rfl ?_
    refine E_getR dX12_yearLeft_26 f_X12_22 (by first | assumption | rfl) (by first | assumption | omega) rfl (by first | exact hR _ _ _ rfl | assumption) ?_
    refine E_iload_n dX12_yearLeft_29 rfl ?_
    refine E_iload dX12_yearLeft_30 rfl ?_
    refine E_callS (As := [_, _]) (kc' := 0) (ks' := 0) (kc := 0) (ks := 0) dX12_yearLeft_32 ok_X12_at w_X12_280 st_X12_at rfl rfl rfl (Nat.le_of_ble_eq_true rfl) (Nat.le_of_ble_eq_true rfl) (Nat.le_refl _) (m_at ?_)
    refine E_ialdN dX12_yearLeft_35 rfl (by omega) (by omega) ?_
    refine E.top (w3 i hlt).1 ?_
    refine E_istore dX12_yearLeft_36 (Nat.le_of_ble_eq_true rfl) ?_
    refine E_iload_n dX12_yearLeft_38 rfl ?_
    refine E_bp (-2) dX12_yearLeft_39 (by decide) ?_
    refine E_icmp_eq (tgt := 63) dX12_yearLeft_41 (by decide) (fun c41 => ?_) (fun c41 => ?_)
    · refine E_iload dX12_yearLeft_63 rfl ?_
      refine E_istore_n dX12_yearLeft_65 (Nat.le_of_ble_eq_true rfl) ?_
      refine E_incN dX12_yearLeft_66 rfl ?_
      refine E_goto (tgt := 14) dX12_yearLeft_69 (by decide) ?_
      refine E.mask [true, true, true, true, true, false] ?_
      exact ih (i + 1) _ (by omega) (by rw [oldS] at hQ; first | (rw [if_pos c41] at hQ; exact hQ) | (rw [if_neg c41] at hQ; unfold imin at hQ; first | (rw [if_neg (Int32.not_lt.mpr c51)] at hQ; exact hQ) | (rw [if_pos (Int32.not_le.mp c51)] at hQ; exact hQ)))
    · refine E_iload_n dX12_yearLeft_44 rfl ?_
      refine E_if_eq (tgt := 57) dX12_yearLeft_45 (by decide) (fun c45 => absurd c45 (by decide)) (fun c45 => ?_)
      refine E_iload dX12_yearLeft_48 rfl ?_
      refine E_iload_n dX12_yearLeft_50 rfl ?_
      refine E_icmp_ge (tgt := 66) dX12_yearLeft_51 (by decide) (fun c51 => ?_) (fun c51 => ?_)
      · refine E_incN dX12_yearLeft_66 rfl ?_
        refine E_goto (tgt := 14) dX12_yearLeft_69 (by decide) ?_
        refine E.mask [true, true, true, true, true, false] ?_
        exact ih (i + 1) _ (by omega) (by rw [oldS] at hQ; first | (rw [if_pos c41] at hQ; exact hQ) | (rw [if_neg c41] at hQ; unfold imin at hQ; first | (rw [if_neg (Int32.not_lt.mpr c51)] at hQ; exact hQ) | (rw [if_pos (Int32.not_le.mp c51)] at hQ; exact hQ)))
      · refine E_goto (tgt := 63) dX12_yearLeft_54 (by decide) ?_
        refine E_iload dX12_yearLeft_63 rfl ?_
        refine E_istore_n dX12_yearLeft_65 (Nat.le_of_ble_eq_true rfl) ?_
        refine E_incN dX12_yearLeft_66 rfl ?_
        refine E_goto (tgt := 14) dX12_yearLeft_69 (by decide) ?_
        refine E.mask [true, true, true, true, true, false] ?_
        exact ih (i + 1) _ (by omega) (by rw [oldS] at hQ; first | (rw [if_pos c41] at hQ; exact hQ) | (rw [if_neg c41] at hQ; unfold imin at hQ; first | (rw [if_neg (Int32.not_lt.mpr c51)] at hQ; exact hQ) | (rw [if_pos (Int32.not_le.mp c51)] at hQ; exact hQ)))
set_option maxRecDepth 100000 in
set_option maxHeartbeats 1000000 in
theorem m_yearLeft1 (hB : BND σ) (hM : MR σ I) (hN : 152 ≤ n) (hR : RS R) (hk : k < 12) (hQ : Q (some (.int (oldS (σ 1 k) (σ 0 k 0 - σ 3 k 3) (σ 3 k 3) (-2)))) n I J R) : E g mX12_yearLeft (d + 1) 0 0 0 (ent 6 [.ref 114, .int (nI k), .int 1]) [] n I J R Q := by
  obtain ⟨b1, b2, b3, b4⟩ := hB.1 k hk
  obtain ⟨w1, w3⟩ := hM.1 k hk
  obtain ⟨f0, f1, f2, f3, f4, f5⟩ := hM.2.1.1 k hk
  refine E_bp (-2) dX12_yearLeft_0 (by decide) ?_
  refine E_istore_n dX12_yearLeft_2 (Nat.le_of_ble_eq_true rfl) ?_
  refine E_aload_n dX12_yearLeft_3 rfl ?_
  refine E_getR dX12_yearLeft_4 f_X12_7 (by first | assumption | rfl) (by first | assumption | omega) rfl (by first | exact hR _ _ _ rfl | assumption) ?_
  refine E_bp (60) dX12_yearLeft_7 (by decide) ?_
  refine E_iload_n dX12_yearLeft_9 rfl ?_
  refine E_iadd dX12_yearLeft_10 ?_
  refine E.top (show (60 : Int32) + nI k = nI (60 + k) from nI_add 60 k) ?_
  refine E_ialdN dX12_yearLeft_11 rfl (by omega) (by omega) ?_
  refine E.top f5 ?_
  refine E_istore dX12_yearLeft_12 (Nat.le_of_ble_eq_true rfl) ?_
  exact l_yearLeft1 hB hM hN hR hk _ _ _ (by omega) hQ
set_option maxRecDepth 100000 in
set_option maxHeartbeats 1000000 in
theorem l_yearLeft0 (hB : BND σ) (hM : MR σ I) (hN : 152 ≤ n) (hR : RS R) (hk : k < 12) : ∀ (m i : Nat) (a : Int32), i + m = σ 0 k 0 → Q (some (.int (yngS (σ 1 k) m i a))) n I J R → E g mX12_yearLeft (d + 1) 0 0 14 [.ref 114, .int (nI k), .int 0, .int a, .int (nI i), jk] [] n I J R Q := by
  obtain ⟨b1, b2, b3, b4⟩ := hB.1 k hk
  obtain ⟨w1, w3⟩ := hM.1 k hk
  obtain ⟨f0, f1, f2, f3, f4, f5⟩ := hM.2.1.1 k hk
  intro m
  induction m with
  | zero =>
    intro i a hi hQ
    have hi : i = σ 0 k 0 := hi
    rw [← hi] at w1
    refine E_iload dX12_yearLeft_14 rfl ?_
    refine E_aload_n dX12_yearLeft_16 rfl ?_
    refine E_getR dX12_yearLeft_17 f_X12_19 (by first | assumption | rfl) (by first | assumption | omega) rfl (by first | exact hR _ _ _ rfl | assumption) ?_
    refine E_iload_n dX12_yearLeft_20 rfl ?_
    refine E_ialdN dX12_yearLeft_21 rfl (by omega) hk ?_
    refine E.top w1 ?_
    refine E_icmp_ge (tgt := 72) dX12_yearLeft_22 (by decide) (fun c22 => ?_) (fun c22 => absurd (Int32.le_refl _) c22)
    refine E_iload_n dX12_yearLeft_72 rfl ?_
    exact E_iret dX12_yearLeft_73 rfl (hQ)
  | succ m ih =>
    intro i a hi hQ
    have hlt : i < σ 0 k 0 := by omega
    have hy := (b2 i hlt).1
    refine E_iload dX12_yearLeft_14 rfl ?_
    refine E_aload_n dX12_yearLeft_16 rfl ?_
    refine E_getR dX12_yearLeft_17 f_X12_19 (by first | assumption | rfl) (by first | assumption | omega) rfl (by first | exact hR _ _ _ rfl | assumption) ?_
    refine E_iload_n dX12_yearLeft_20 rfl ?_
    refine E_ialdN dX12_yearLeft_21 rfl (by omega) hk ?_
    refine E.top w1 ?_
    refine E_icmp_ge (tgt := 72) dX12_yearLeft_22 (by decide) (fun c22 => absurd c22 (nI_ge hlt (by omega))) (fun c22 => ?_)
    refine E_aload_n dX12_yearLeft_25 rfl ?_
    refine E_getR dX12_yearLeft_26 f_X12_22 (by first | assumption | rfl) (by first | assumption | omega) rfl (by first | exact hR _ _ _ rfl | assumption) ?_
    refine E_iload_n dX12_yearLeft_29 rfl ?_
    refine E_iload dX12_yearLeft_30 rfl ?_
    refine E_callS (As := [_, _]) (kc' := 0) (ks' := 0) (kc := 0) (ks := 0) dX12_yearLeft_32 ok_X12_at w_X12_280 st_X12_at rfl rfl rfl (Nat.le_of_ble_eq_true rfl) (Nat.le_of_ble_eq_true rfl) (Nat.le_refl _) (m_at ?_)
    refine E_ialdN dX12_yearLeft_35 rfl (by omega) (by omega) ?_
    refine E.top (w3 i hlt).1 ?_
    refine E_istore dX12_yearLeft_36 (Nat.le_of_ble_eq_true rfl) ?_
    refine E_iload_n dX12_yearLeft_38 rfl ?_
    refine E_bp (-2) dX12_yearLeft_39 (by decide) ?_
    refine E_icmp_eq (tgt := 63) dX12_yearLeft_41 (by decide) (fun c41 => ?_) (fun c41 => ?_)
    · refine E_iload dX12_yearLeft_63 rfl ?_
      refine E_istore_n dX12_yearLeft_65 (Nat.le_of_ble_eq_true rfl) ?_
      refine E_incN dX12_yearLeft_66 rfl ?_
      refine E_goto (tgt := 14) dX12_yearLeft_69 (by decide) ?_
      refine E.mask [true, true, true, true, true, false] ?_
      exact ih (i + 1) _ (by omega) (by rw [yngS] at hQ; unfold imax at hQ; first | (rw [c41, if_pos (show (-2 : Int32) < nI (σ 1 k i) from Int32.lt_of_lt_of_le (by decide) (nI_pos' (by omega)))] at hQ; exact hQ) | (rw [if_neg (Int32.not_lt.mpr c60)] at hQ; exact hQ) | (rw [if_pos (Int32.not_le.mp c60)] at hQ; exact hQ))
    · refine E_iload_n dX12_yearLeft_44 rfl ?_
      refine E_if_eq (tgt := 57) dX12_yearLeft_45 (by decide) (fun c45 => ?_) (fun c45 => absurd (by decide) c45)
      refine E_iload dX12_yearLeft_57 rfl ?_
      refine E_iload_n dX12_yearLeft_59 rfl ?_
      refine E_icmp_le (tgt := 66) dX12_yearLeft_60 (by decide) (fun c60 => ?_) (fun c60 => ?_)
      · refine E_incN dX12_yearLeft_66 rfl ?_
        refine E_goto (tgt := 14) dX12_yearLeft_69 (by decide) ?_
        refine E.mask [true, true, true, true, true, false] ?_
        exact ih (i + 1) _ (by omega) (by rw [yngS] at hQ; unfold imax at hQ; first | (rw [c41, if_pos (show (-2 : Int32) < nI (σ 1 k i) from Int32.lt_of_lt_of_le (by decide) (nI_pos' (by omega)))] at hQ; exact hQ) | (rw [if_neg (Int32.not_lt.mpr c60)] at hQ; exact hQ) | (rw [if_pos (Int32.not_le.mp c60)] at hQ; exact hQ))
      · refine E_iload dX12_yearLeft_63 rfl ?_
        refine E_istore_n dX12_yearLeft_65 (Nat.le_of_ble_eq_true rfl) ?_
        refine E_incN dX12_yearLeft_66 rfl ?_
        refine E_goto (tgt := 14) dX12_yearLeft_69 (by decide) ?_
        refine E.mask [true, true, true, true, true, false] ?_
        exact ih (i + 1) _ (by omega) (by rw [yngS] at hQ; unfold imax at hQ; first | (rw [c41, if_pos (show (-2 : Int32) < nI (σ 1 k i) from Int32.lt_of_lt_of_le (by decide) (nI_pos' (by omega)))] at hQ; exact hQ) | (rw [if_neg (Int32.not_lt.mpr c60)] at hQ; exact hQ) | (rw [if_pos (Int32.not_le.mp c60)] at hQ; exact hQ))
set_option maxRecDepth 100000 in
set_option maxHeartbeats 1000000 in
theorem m_yearLeft0 (hB : BND σ) (hM : MR σ I) (hN : 152 ≤ n) (hR : RS R) (hk : k < 12) (hQ : Q (some (.int (yngS (σ 1 k) (σ 0 k 0 - σ 3 k 3) (σ 3 k 3) (-2)))) n I J R) : E g mX12_yearLeft (d + 1) 0 0 0 (ent 6 [.ref 114, .int (nI k), .int 0]) [] n I J R Q := by
  obtain ⟨b1, b2, b3, b4⟩ := hB.1 k hk
  obtain ⟨w1, w3⟩ := hM.1 k hk
  obtain ⟨f0, f1, f2, f3, f4, f5⟩ := hM.2.1.1 k hk
  refine E_bp (-2) dX12_yearLeft_0 (by decide) ?_
  refine E_istore_n dX12_yearLeft_2 (Nat.le_of_ble_eq_true rfl) ?_
  refine E_aload_n dX12_yearLeft_3 rfl ?_
  refine E_getR dX12_yearLeft_4 f_X12_7 (by first | assumption | rfl) (by first | assumption | omega) rfl (by first | exact hR _ _ _ rfl | assumption) ?_
  refine E_bp (60) dX12_yearLeft_7 (by decide) ?_
  refine E_iload_n dX12_yearLeft_9 rfl ?_
  refine E_iadd dX12_yearLeft_10 ?_
  refine E.top (show (60 : Int32) + nI k = nI (60 + k) from nI_add 60 k) ?_
  refine E_ialdN dX12_yearLeft_11 rfl (by omega) (by omega) ?_
  refine E.top f5 ?_
  refine E_istore dX12_yearLeft_12 (Nat.le_of_ble_eq_true rfl) ?_
  exact l_yearLeft0 hB hM hN hR hk _ _ _ (by omega) hQ
set_option maxRecDepth 100000 in
set_option maxHeartbeats 1000000 in
theorem l_msins (hB : BND σ) (hM : MR σ I) (hN : 152 ≤ n) (hR : RS R) (hk : k < 12) : ∀ (m i : Nat) (a : Int32), i + m = σ 0 k 0 → Q (some (.int (sinS (σ 2 k) m i a))) n I J R → E g mX12_sinsLeft (d + 1) 0 0 12 [.ref 114, .int (nI k), .int a, .int (nI i)] [] n I J R Q := by
  obtain ⟨b1, b2, b3, b4⟩ := hB.1 k hk
  obtain ⟨w1, w3⟩ := hM.1 k hk
  obtain ⟨f0, f1, f2, f3, f4, f5⟩ := hM.2.1.1 k hk
  intro m
  induction m with
  | zero =>
    intro i a hi hQ
    have hi : i = σ 0 k 0 := hi
    rw [← hi] at w1
    refine E_iload_n dX12_sinsLeft_12 rfl ?_
    refine E_aload_n dX12_sinsLeft_13 rfl ?_
    refine E_getR dX12_sinsLeft_14 f_X12_19 (by first | assumption | rfl) (by first | assumption | omega) rfl (by first | exact hR _ _ _ rfl | assumption) ?_
    refine E_iload_n dX12_sinsLeft_17 rfl ?_
    refine E_ialdN dX12_sinsLeft_18 rfl (by omega) hk ?_
    refine E.top w1 ?_
    refine E_icmp_ge (tgt := 43) dX12_sinsLeft_19 (by decide) (fun c19 => ?_) (fun c19 => absurd (Int32.le_refl _) c19)
    refine E_iload_n dX12_sinsLeft_43 rfl ?_
    exact E_iret dX12_sinsLeft_44 rfl (hQ)
  | succ m ih =>
    intro i a hi hQ
    have hlt : i < σ 0 k 0 := by omega
    refine E_iload_n dX12_sinsLeft_12 rfl ?_
    refine E_aload_n dX12_sinsLeft_13 rfl ?_
    refine E_getR dX12_sinsLeft_14 f_X12_19 (by first | assumption | rfl) (by first | assumption | omega) rfl (by first | exact hR _ _ _ rfl | assumption) ?_
    refine E_iload_n dX12_sinsLeft_17 rfl ?_
    refine E_ialdN dX12_sinsLeft_18 rfl (by omega) hk ?_
    refine E.top w1 ?_
    refine E_icmp_ge (tgt := 43) dX12_sinsLeft_19 (by decide) (fun c19 => absurd c19 (nI_ge hlt (by omega))) (fun c19 => ?_)
    refine E_iload_n dX12_sinsLeft_22 rfl ?_
    refine E_ic (1) dX12_sinsLeft_23 (by decide) ?_
    refine E_aload_n dX12_sinsLeft_24 rfl ?_
    refine E_getR dX12_sinsLeft_25 f_X12_25 (by first | assumption | rfl) (by first | assumption | omega) rfl (by first | exact hR _ _ _ rfl | assumption) ?_
    refine E_iload_n dX12_sinsLeft_28 rfl ?_
    refine E_iload_n dX12_sinsLeft_29 rfl ?_
    refine E_callS (As := [_, _]) (kc' := 0) (ks' := 0) (kc := 0) (ks := 0) dX12_sinsLeft_30 ok_X12_at w_X12_280 st_X12_at rfl rfl rfl (Nat.le_of_ble_eq_true rfl) (Nat.le_of_ble_eq_true rfl) (Nat.le_refl _) (m_at ?_)
    refine E_ialdN dX12_sinsLeft_33 rfl (by omega) (by omega) ?_
    refine E.top (w3 i hlt).2 ?_
    refine E_ishl dX12_sinsLeft_34 ?_
    refine E_ior dX12_sinsLeft_35 ?_
    refine E_istore_n dX12_sinsLeft_36 (Nat.le_of_ble_eq_true rfl) ?_
    refine E_incN dX12_sinsLeft_37 rfl ?_
    refine E_goto (tgt := 12) dX12_sinsLeft_40 (by decide) ?_
    exact ih (i + 1) _ (by omega) hQ
set_option maxRecDepth 100000 in
set_option maxHeartbeats 1000000 in
theorem m_sinsLeft (hB : BND σ) (hM : MR σ I) (hN : 152 ≤ n) (hR : RS R) (hk : k < 12) (hQ : Q (some (.int (sinS (σ 2 k) (σ 0 k 0 - σ 3 k 3) (σ 3 k 3) 0))) n I J R) : E g mX12_sinsLeft (d + 1) 0 0 0 (ent 4 [.ref 114, .int (nI k)]) [] n I J R Q := by
  obtain ⟨b1, b2, b3, b4⟩ := hB.1 k hk
  obtain ⟨w1, w3⟩ := hM.1 k hk
  obtain ⟨f0, f1, f2, f3, f4, f5⟩ := hM.2.1.1 k hk
  refine E_ic (0) dX12_sinsLeft_0 (by decide) ?_
  refine E_istore_n dX12_sinsLeft_1 (Nat.le_of_ble_eq_true rfl) ?_
  refine E_aload_n dX12_sinsLeft_2 rfl ?_
  refine E_getR dX12_sinsLeft_3 f_X12_7 (by first | assumption | rfl) (by first | assumption | omega) rfl (by first | exact hR _ _ _ rfl | assumption) ?_
  refine E_bp (60) dX12_sinsLeft_6 (by decide) ?_
  refine E_iload_n dX12_sinsLeft_8 rfl ?_
  refine E_iadd dX12_sinsLeft_9 ?_
  refine E.top (show (60 : Int32) + nI k = nI (60 + k) from nI_add 60 k) ?_
  refine E_ialdN dX12_sinsLeft_10 rfl (by omega) (by omega) ?_
  refine E.top f5 ?_
  refine E_istore_n dX12_sinsLeft_11 (Nat.le_of_ble_eq_true rfl) ?_
  exact l_msins hB hM hN hR hk _ _ _ (by omega) hQ
set_option maxRecDepth 100000 in
set_option maxHeartbeats 1000000 in
theorem l_mnext (hB : BND σ) (hM : MR σ I) (hN : 152 ≤ n) (hR : RS R) (hk : k < 12) {y : Int32} : ∀ (m i : Nat), i + m = σ 0 k 0 → Q (some (.int (nxtS (σ 1 k) y m i))) n I J R → E g mX12_nextOf (d + 1) 0 0 10 [.ref 114, .int (nI k), .int y, .int (nI i)] [] n I J R Q := by
  obtain ⟨b1, b2, b3, b4⟩ := hB.1 k hk
  obtain ⟨w1, w3⟩ := hM.1 k hk
  obtain ⟨f0, f1, f2, f3, f4, f5⟩ := hM.2.1.1 k hk
  intro m
  induction m with
  | zero =>
    intro i hi hQ
    have hi : i = σ 0 k 0 := hi
    rw [← hi] at w1
    refine E_iload_n dX12_nextOf_10 rfl ?_
    refine E_aload_n dX12_nextOf_11 rfl ?_
    refine E_getR dX12_nextOf_12 f_X12_19 (by first | assumption | rfl) (by first | assumption | omega) rfl (by first | exact hR _ _ _ rfl | assumption) ?_
    refine E_iload_n dX12_nextOf_15 rfl ?_
    refine E_ialdN dX12_nextOf_16 rfl (by omega) hk ?_
    refine E.top w1 ?_
    refine E_icmp_ge (tgt := 42) dX12_nextOf_17 (by decide) (fun c17 => ?_) (fun c17 => absurd (Int32.le_refl _) c17)
    refine E_ic (-1) dX12_nextOf_42 (by decide) ?_
    exact E_iret dX12_nextOf_43 rfl (hQ)
  | succ m ih =>
    intro i hi hQ
    have hlt : i < σ 0 k 0 := by omega
    rw [nxtS] at hQ
    refine E_iload_n dX12_nextOf_10 rfl ?_
    refine E_aload_n dX12_nextOf_11 rfl ?_
    refine E_getR dX12_nextOf_12 f_X12_19 (by first | assumption | rfl) (by first | assumption | omega) rfl (by first | exact hR _ _ _ rfl | assumption) ?_
    refine E_iload_n dX12_nextOf_15 rfl ?_
    refine E_ialdN dX12_nextOf_16 rfl (by omega) hk ?_
    refine E.top w1 ?_
    refine E_icmp_ge (tgt := 42) dX12_nextOf_17 (by decide) (fun c17 => absurd c17 (nI_ge hlt (by omega))) (fun c17 => ?_)
    refine E_aload_n dX12_nextOf_20 rfl ?_
    refine E_getR dX12_nextOf_21 f_X12_22 (by first | assumption | rfl) (by first | assumption | omega) rfl (by first | exact hR _ _ _ rfl | assumption) ?_
    refine E_iload_n dX12_nextOf_24 rfl ?_
    refine E_iload_n dX12_nextOf_25 rfl ?_
    refine E_callS (As := [_, _]) (kc' := 0) (ks' := 0) (kc := 0) (ks := 0) dX12_nextOf_26 ok_X12_at w_X12_280 st_X12_at rfl rfl rfl (Nat.le_of_ble_eq_true rfl) (Nat.le_of_ble_eq_true rfl) (Nat.le_refl _) (m_at ?_)
    refine E_ialdN dX12_nextOf_29 rfl (by omega) (by omega) ?_
    refine E.top (w3 i hlt).1 ?_
    refine E_iload_n dX12_nextOf_30 rfl ?_
    refine E_icmp_ne (tgt := 36) dX12_nextOf_31 (by decide) (fun c31 => ?_) (fun c31 => ?_)
    · refine E_incN dX12_nextOf_36 rfl ?_
      refine E_goto (tgt := 10) dX12_nextOf_39 (by decide) ?_
      exact ih (i + 1) (by omega) (by rw [if_neg c31] at hQ; exact hQ)
    · refine E_iload_n dX12_nextOf_34 rfl ?_
      exact E_iret dX12_nextOf_35 rfl (by rw [if_pos c31] at hQ; exact hQ)
set_option maxRecDepth 100000 in
set_option maxHeartbeats 1000000 in
theorem m_nextOf (hB : BND σ) (hM : MR σ I) (hN : 152 ≤ n) (hR : RS R) (hk : k < 12) {y : Int32} (hQ : Q (some (.int (nxtS (σ 1 k) y (σ 0 k 0 - σ 3 k 3) (σ 3 k 3)))) n I J R) : E g mX12_nextOf (d + 1) 0 0 0 (ent 4 [.ref 114, .int (nI k), .int y]) [] n I J R Q := by
  obtain ⟨b1, b2, b3, b4⟩ := hB.1 k hk
  obtain ⟨w1, w3⟩ := hM.1 k hk
  obtain ⟨f0, f1, f2, f3, f4, f5⟩ := hM.2.1.1 k hk
  refine E_aload_n dX12_nextOf_0 rfl ?_
  refine E_getR dX12_nextOf_1 f_X12_7 (by first | assumption | rfl) (by first | assumption | omega) rfl (by first | exact hR _ _ _ rfl | assumption) ?_
  refine E_bp (60) dX12_nextOf_4 (by decide) ?_
  refine E_iload_n dX12_nextOf_6 rfl ?_
  refine E_iadd dX12_nextOf_7 ?_
  refine E.top (show (60 : Int32) + nI k = nI (60 + k) from nI_add 60 k) ?_
  refine E_ialdN dX12_nextOf_8 rfl (by omega) (by omega) ?_
  refine E.top f5 ?_
  refine E_istore_n dX12_nextOf_9 (Nat.le_of_ble_eq_true rfl) ?_
  exact l_mnext hB hM hN hR hk _ _ (by omega) hQ
set_option maxRecDepth 100000 in
set_option maxHeartbeats 1000000 in
theorem M_isTold {x : Int32} (hB : BND σ) (hM : MR σ I) (hN : 152 ≤ n) (hR : RS R) (ht : ∀ j, j < 12 → x = nI j → 0 < σ 0 j 0 → Q (some (.int 1)) n I J R) (hf : ¬ tk σ x → Q (some (.int 0)) n I J R) : E g mX12_isTold (d + 1) 0 0 0 (ent 2 [.ref 114, .int x]) [] n I J R Q := by
  rcases i32_ix x 12 (by decide) with h | ⟨j, hj, rfl⟩
  · have hno : ¬ tk σ x := fun z => h.elim z.1 z.2.1
    refine E_iload_n dX12_isTold_0 rfl ?_
    refine E_ic (0) dX12_isTold_1 (by decide) ?_
    refine E_bp (11) dX12_isTold_2 (by decide) ?_
    refine E_callS (As := [_, _, _]) (kc' := 0) (ks' := 0) (kc := 0) (ks := 0) dX12_isTold_4 ok_X12_in w_X12_124 st_X12_in rfl rfl rfl (Nat.le_of_ble_eq_true rfl) (Nat.le_of_ble_eq_true rfl) (Nat.le_refl _) (m_in (fun z1 z2 => absurd h (fun z => z.elim z1 (fun y => z2 (Int32.lt_of_lt_of_le (by decide) y)))) (fun _ => ?_))
    refine E_if_eq (tgt := 23) dX12_isTold_7 (by decide) (fun c7 => ?_) (fun c7 => absurd (rfl) c7)
    refine E_ic (0) dX12_isTold_23 (by decide) ?_
    exact E_zret dX12_isTold_24 rfl (by decide) (hf hno)
  · have w1 := (hM.1 j hj).1
    have b1 := (hB.1 j hj).1
    refine E_iload_n dX12_isTold_0 rfl ?_
    refine E_ic (0) dX12_isTold_1 (by decide) ?_
    refine E_bp (11) dX12_isTold_2 (by decide) ?_
    refine E_callS (As := [_, _, _]) (kc' := 0) (ks' := 0) (kc := 0) (ks := 0) dX12_isTold_4 ok_X12_in w_X12_124 st_X12_in rfl rfl rfl (Nat.le_of_ble_eq_true rfl) (Nat.le_of_ble_eq_true rfl) (Nat.le_refl _) (m_in (fun _ _ => ?_) (fun z => absurd z (fun y => y.elim (nI_pos (by omega)) (fun q => absurd ((nI_ltI (a := 11) (by decide) (by omega)).mp q) (by omega)))))
    refine E_if_eq (tgt := 23) dX12_isTold_7 (by decide) (fun c7 => absurd c7 (by decide)) (fun c7 => ?_)
    refine E_aload_n dX12_isTold_10 rfl ?_
    refine E_getR dX12_isTold_11 f_X12_19 (by first | assumption | rfl) (by first | assumption | omega) rfl (by first | exact hR _ _ _ rfl | assumption) ?_
    refine E_iload_n dX12_isTold_14 rfl ?_
    refine E_ialdN dX12_isTold_15 rfl (by omega) hj ?_
    refine E.top w1 ?_
    refine E_if_le (tgt := 23) dX12_isTold_16 (by decide) (fun c16 => ?_) (fun c16 => ?_)
    · refine E_ic (0) dX12_isTold_23 (by decide) ?_
      exact E_zret dX12_isTold_24 rfl (by decide) (by first | exact ht j hj rfl ((nI_ltI (a := 0) (by decide) (by omega)).mp (Int32.not_le.mp c16)) | exact hf (fun z => by obtain ⟨i, hi, e, p⟩ := tk_ex z; have := (nI_eq (by omega) (by omega)).mp e; subst this; exact absurd ((nI_leI (b := 0) (by omega) (by decide)).mp c16) (by omega)))
    · refine E_ic (1) dX12_isTold_19 (by decide) ?_
      refine E_goto (tgt := 24) dX12_isTold_20 (by decide) ?_
      exact E_zret dX12_isTold_24 rfl (by decide) (by first | exact ht j hj rfl ((nI_ltI (a := 0) (by decide) (by omega)).mp (Int32.not_le.mp c16)) | exact hf (fun z => by obtain ⟨i, hi, e, p⟩ := tk_ex z; have := (nI_eq (by omega) (by omega)).mp e; subst this; exact absurd ((nI_leI (b := 0) (by omega) (by decide)).mp c16) (by omega)))
end PRead
