/-! ===== keep, undo ===== -/
/-- the first i kept ones are as those now -/
def kp (I : IM) (i : Nat) : IM := fun x y => if 58 ≤ x ∧ (x - 58) % 5 = 0 ∧ (x - 58) / 5 < i ∧ y < 6 then I (x - 1) y else I x y
theorem kp_0 (I : IM) : kp I 0 = I := by funext x y; unfold kp; rw [if_neg (by omega)]
theorem kp_s (I : IM) (i : Nat) : blk (kp I i) (58 + 5 * i) (57 + 5 * i) 6 = kp I (i + 1) := by
  funext x y
  unfold blk
  by_cases h : x = 58 + 5 * i ∧ y < 6
  · rw [if_pos h]
    unfold kp
    rw [if_neg (by omega), if_pos (by omega), show x - 1 = 57 + 5 * i by omega]
  · rw [if_neg h]
    unfold kp
    by_cases h2 : 58 ≤ x ∧ (x - 58) % 5 = 0 ∧ (x - 58) / 5 < i ∧ y < 6
    · rw [if_pos h2, if_pos (by omega)]
    · rw [if_neg h2, if_neg (by omega)]
/-- the first i now are as those kept, OUT no more than the LAYERS -/
def ud (I : IM) (i : Nat) : IM := fun x y => if 57 ≤ x ∧ (x - 57) % 5 = 0 ∧ (x - 57) / 5 < i ∧ y < 6 then (if y = 3 then imin (I (x + 1) 3) (I (x - 3) 4) else I (x + 1) y) else I x y
theorem ud_0 (I : IM) : ud I 0 = I := by funext x y; unfold ud; rw [if_neg (by omega)]
theorem ud_s (I : IM) (i : Nat) : up2 (blk (ud I i) (57 + 5 * i) (58 + 5 * i) 6) (57 + 5 * i) 3 (imin (I (58 + 5 * i) 3) (I (54 + 5 * i) 4)) = ud I (i + 1) := by
  funext x y
  unfold up2 blk
  by_cases h : x = 57 + 5 * i ∧ y = 3
  · rw [if_pos h]
    unfold ud
    rw [if_pos (by omega), if_pos h.2, show x + 1 = 58 + 5 * i by omega, show x - 3 = 54 + 5 * i by omega]
  · rw [if_neg h]
    by_cases h3 : x = 57 + 5 * i ∧ y < 6
    · rw [if_pos h3]
      unfold ud
      rw [if_neg (by omega), if_pos (by omega), if_neg (by omega), show x + 1 = 58 + 5 * i by omega]
    · rw [if_neg h3]
      unfold ud
      by_cases h2 : 57 ≤ x ∧ (x - 57) % 5 = 0 ∧ (x - 57) / 5 < i ∧ y < 6
      · rw [if_pos h2, if_pos (show 57 ≤ x ∧ (x - 57) % 5 = 0 ∧ (x - 57) / 5 < i + 1 ∧ y < 6 by omega)]
      · rw [if_neg h2, if_neg (by omega)]
theorem ud_o {I : IM} {i x y : Nat} (h : ¬ (57 ≤ x ∧ (x - 57) % 5 = 0 ∧ (x - 57) / 5 < i)) : ud I i x y = I x y := by unfold ud; rw [if_neg (by omega)]
theorem kp_o {I : IM} {i x y : Nat} (h : ¬ (58 ≤ x ∧ (x - 58) % 5 = 0 ∧ (x - 58) / 5 < i)) : kp I i x y = I x y := by unfold kp; rw [if_neg (by omega)]
def BZ (x : Int32) : Prop := x = 0 ∨ x = 1
theorem BZ_n {j : Nat} (h : j ≤ 1) : BZ (nI j) := by
  rcases (show j = 0 ∨ j = 1 by omega) with rfl | rfl
  · exact Or.inl rfl
  · exact Or.inr rfl
section PKeep
variable {g : GL} {d n : Nat} {I : IM} {J : JM} {R : RM} {Q : PQ}
set_option maxRecDepth 100000 in
set_option maxHeartbeats 1000000 in
theorem l_keep (hN : 152 ≤ n) (hR : RS R) (hz : ∀ k, k < 12 → BZ (I (57 + 5 * k) 4) ∧ BZ (I (57 + 5 * k) 5)) (hQ : Q (some (.int (I 0 14))) n (kp I 12) J R) : ∀ (m i : Nat), i + m = 12 → E g mX11_keep (d + 1) 0 0 31 [.ref 0, .int (nI i)] [] n (kp I i) J R Q := by
  intro m
  induction m with
  | zero =>
    intro i hi
    have hi : i = 12 := hi
    subst hi
    have e0 : kp I 12 0 14 = I 0 14 := kp_o (by omega)
    refine E_iload_n dX11_keep_31 rfl ?_
    refine E_bp (12) dX11_keep_32 (by decide) ?_
    refine E_icmp_ge (tgt := 64) dX11_keep_34 (by decide) (fun c34 => ?_) (fun c34 => absurd (by decide) c34)
    refine E_aload_n dX11_keep_64 rfl ?_
    refine E_getI dX11_keep_65 f_X11_89 (by first | assumption | rfl) (by first | assumption | omega) rfl ?_
    exact E_iret dX11_keep_68 rfl (by rw [e0]; exact hQ)
  | succ m ih =>
    intro i hi
    have hlt : i < 12 := by omega
    have hw := RTw i hlt
    have hly := LYw i hlt
    obtain ⟨t9, t20, t20b, t7, t7b⟩ := hly
    have z4 : BZ (kp I i (57 + 5 * i) 4) := by rw [kp_o (by omega)]; exact (hz i hlt).1
    have z5 : BZ (kp I i (57 + 5 * i) 5) := by rw [kp_o (by omega)]; exact (hz i hlt).2
    refine E_iload_n dX11_keep_31 rfl ?_
    refine E_bp (12) dX11_keep_32 (by decide) ?_
    refine E_icmp_ge (tgt := 64) dX11_keep_34 (by decide) (fun c34 => absurd c34 (nI_ge hlt (by decide))) (fun c34 => ?_)
    refine E_aload_n dX11_keep_37 rfl ?_
    refine E_getR dX11_keep_38 f_X11_11 (by first | assumption | rfl) (by first | assumption | omega) rfl (by first | exact hR _ _ _ rfl | assumption) ?_
    refine E_iload_n dX11_keep_41 rfl ?_
    refine E_aaldN dX11_keep_42 rfl (by omega) hlt (hR _ _ _ (RT1 i hlt)) ?_
    refine E_getR dX11_keep_43 f_X11_308 (by first | assumption | rfl) (by first | assumption | omega) rfl (hR _ _ _ hw.2.2.2) ?_
    refine E_aload_n dX11_keep_46 rfl ?_
    refine E_getR dX11_keep_47 f_X11_11 (by first | assumption | rfl) (by first | assumption | omega) rfl (by first | exact hR _ _ _ rfl | assumption) ?_
    refine E_iload_n dX11_keep_50 rfl ?_
    refine E_aaldN dX11_keep_51 rfl (by omega) hlt (hR _ _ _ (RT1 i hlt)) ?_
    refine E_getR dX11_keep_52 f_X11_146 (by first | assumption | rfl) (by first | assumption | omega) rfl (hR _ _ _ hw.2.2.1) ?_
    refine E_callV (As := [_]) (ci := 7) (kc' := 0) (ks' := 0) (kc := 0) (ks := 0) dX11_keep_55 ok_X8_take w_X11_153 i_X8_take s_X8_take rfl (by decide) (by first | assumption | rfl) (by first | assumption | omega) rfl rfl rfl (Nat.le_of_ble_eq_true rfl) (Nat.le_of_ble_eq_true rfl) (Nat.le_refl _) (c_State_take t7b t7 (by omega) (by omega) z4 z5 ?_)
    refine E_incN dX11_keep_58 rfl ?_
    refine E_goto (tgt := 31) dX11_keep_61 (by decide) ?_
    exact E.memE (ih (i + 1) (by omega)) (kp_s I i)
set_option maxRecDepth 100000 in
set_option maxHeartbeats 1000000 in
theorem x_keep (hN : 152 ≤ n) (hR : RS R) (hz : ∀ k, k < 12 → BZ (I (57 + 5 * k) 4) ∧ BZ (I (57 + 5 * k) 5)) (hQ : Q (some (.int (I 0 14))) n (kp (up2 (up2 (up2 (up2 I 0 16 1) 0 17 (I 0 13)) 0 18 (I 0 14)) 0 19 (I 0 15)) 12) J R) : E g mX11_keep (d + 1) 0 0 0 (ent 2 [.ref 0]) [] n I J R Q := by
  refine E_aload_n dX11_keep_0 rfl ?_
  refine E_ic (1) dX11_keep_1 (by decide) ?_
  refine E_putZ dX11_keep_2 f_X11_95 (by first | assumption | rfl) (by first | assumption | omega) rfl (by decide) ?_
  refine E_aload_n dX11_keep_5 rfl ?_
  refine E_aload_n dX11_keep_6 rfl ?_
  refine E_getI dX11_keep_7 f_X11_86 (by first | assumption | rfl) (by first | assumption | omega) rfl ?_
  refine E_putI dX11_keep_10 f_X11_99 (by first | assumption | rfl) (by first | assumption | omega) rfl ?_
  refine E_aload_n dX11_keep_13 rfl ?_
  refine E_aload_n dX11_keep_14 rfl ?_
  refine E_getI dX11_keep_15 f_X11_89 (by first | assumption | rfl) (by first | assumption | omega) rfl ?_
  refine E_putI dX11_keep_18 f_X11_102 (by first | assumption | rfl) (by first | assumption | omega) rfl ?_
  refine E_aload_n dX11_keep_21 rfl ?_
  refine E_aload_n dX11_keep_22 rfl ?_
  refine E_getI dX11_keep_23 f_X11_92 (by first | assumption | rfl) (by first | assumption | omega) rfl ?_
  refine E_putI dX11_keep_26 f_X11_105 (by first | assumption | rfl) (by first | assumption | omega) rfl ?_
  refine E_ic (0) dX11_keep_29 (by decide) ?_
  refine E_istore_n dX11_keep_30 (Nat.le_of_ble_eq_true rfl) ?_
  refine E.memE (l_keep (I := up2 (up2 (up2 (up2 I 0 16 1) 0 17 (I 0 13)) 0 18 (I 0 14)) 0 19 (I 0 15)) hN hR (fun k hk => ?_) hQ 12 0 (by omega)) (kp_0 _).symm
  rw [up2_a _ _ (by omega), up2_a _ _ (by omega), up2_a _ _ (by omega), up2_a _ _ (by omega), up2_a _ _ (by omega), up2_a _ _ (by omega), up2_a _ _ (by omega), up2_a _ _ (by omega)]
  exact hz k hk
set_option maxRecDepth 100000 in
set_option maxHeartbeats 1000000 in
theorem c_comeBack {a b w : Nat} (hsw : (LY w).1 = 9) (hsa : (LY a).1 = 7) (hsb : (LY b).1 = 7) (hw : w < n) (ha : a < n) (hb : b < n) (hra : R w 2 = some a) (hrb : R w 3 = some b) (h4 : BZ (I b 4)) (h5 : BZ (I b 5)) (hwa : w ≠ a) (hQ : Q none n (up2 (blk I a b 6) a 3 (imin (I b 3) (I w 4))) J R) : E g mX10_comeBack (d + 1) 0 0 0 (ent 1 [.ref w]) [] n I J R Q := by
  have e : ∀ I0, I0 = up2 (blk I a b 6) a 3 (imin (I b 3) (I w 4)) → Q none n I0 J R := fun _ h => h ▸ hQ
  refine E_aload_n dX10_comeBack_0 rfl ?_
  refine E_getR dX10_comeBack_1 f_X10_21 hsw (by first | assumption | omega) rfl (by first | exact hR _ _ _ rfl | assumption) ?_
  refine E_aload_n dX10_comeBack_4 rfl ?_
  refine E_getR dX10_comeBack_5 f_X10_25 hsw (by first | assumption | omega) rfl (by first | exact hR _ _ _ rfl | assumption) ?_
  refine E_callV (As := [_]) (ci := 7) (kc' := 0) (ks' := 0) (kc := 0) (ks := 0) dX10_comeBack_8 ok_X8_take w_X10_45 i_X8_take s_X8_take rfl (by decide) (by first | assumption | rfl) (by first | assumption | omega) rfl rfl rfl (Nat.le_of_ble_eq_true rfl) (Nat.le_of_ble_eq_true rfl) (Nat.le_refl _) (c_State_take hsa hsb ha hb h4 h5 ?_)
  refine E_aload_n dX10_comeBack_11 rfl ?_
  refine E_getR dX10_comeBack_12 f_X10_21 hsw (by first | assumption | omega) rfl (by first | exact hR _ _ _ rfl | assumption) ?_
  refine E_aload_n dX10_comeBack_15 rfl ?_
  refine E_getR dX10_comeBack_16 f_X10_21 hsw (by first | assumption | omega) rfl (by first | exact hR _ _ _ rfl | assumption) ?_
  refine E_getI dX10_comeBack_19 f_X10_49 hsa (by first | assumption | omega) rfl ?_
  refine E_aload_n dX10_comeBack_22 rfl ?_
  refine E_getI dX10_comeBack_23 f_X10_28 hsw (by first | assumption | omega) rfl ?_
  refine E_mmin dX10_comeBack_26 w_X10_36 (Nat.le_of_ble_eq_true rfl) (by omega) ?_
  refine E_putI dX10_comeBack_29 f_X10_49 hsa (by first | assumption | omega) rfl ?_
  exact E_ret dX10_comeBack_32 rfl (e _ (by simp [blk, hwa]))
set_option maxRecDepth 100000 in
set_option maxHeartbeats 1000000 in
theorem l_undo (hN : 152 ≤ n) (hR : RS R) (hz : XB I) (hQ : Q (some (.int 1)) n (ud I 12) J R) : ∀ (m i : Nat), i + m = 12 → E g mX11_undo (d + 2) 0 0 35 [.ref 0, .int (nI i)] [] n (ud I i) J R Q := by
  intro m
  induction m with
  | zero =>
    intro i hi
    have hi : i = 12 := hi
    subst hi
    refine E_iload_n dX11_undo_35 rfl ?_
    refine E_bp (12) dX11_undo_36 (by decide) ?_
    refine E_icmp_ge (tgt := 56) dX11_undo_38 (by decide) (fun c38 => ?_) (fun c38 => absurd (by decide) c38)
    refine E_ic (1) dX11_undo_56 (by decide) ?_
    exact E_zret dX11_undo_57 rfl (by decide) (hQ)
  | succ m ih =>
    intro i hi
    have hlt : i < 12 := by omega
    have hw := RTw i hlt
    have hly := LYw i hlt
    obtain ⟨t9, t20, t20b, t7, t7b⟩ := hly
    have z4 : BZ (ud I i (58 + 5 * i) 4) := by rw [ud_o (by omega)]; exact (hz i hlt).1
    have z5 : BZ (ud I i (58 + 5 * i) 5) := by rw [ud_o (by omega)]; exact (hz i hlt).2
    have e8 : ud I i (58 + 5 * i) 3 = I (58 + 5 * i) 3 := ud_o (by omega)
    have e4 : ud I i (54 + 5 * i) 4 = I (54 + 5 * i) 4 := ud_o (by omega)
    refine E_iload_n dX11_undo_35 rfl ?_
    refine E_bp (12) dX11_undo_36 (by decide) ?_
    refine E_icmp_ge (tgt := 56) dX11_undo_38 (by decide) (fun c38 => absurd c38 (nI_ge hlt (by decide))) (fun c38 => ?_)
    refine E_aload_n dX11_undo_41 rfl ?_
    refine E_getR dX11_undo_42 f_X11_11 (by first | assumption | rfl) (by first | assumption | omega) rfl (by first | exact hR _ _ _ rfl | assumption) ?_
    refine E_iload_n dX11_undo_45 rfl ?_
    refine E_aaldN dX11_undo_46 rfl (by omega) hlt (hR _ _ _ (RT1 i hlt)) ?_
    refine E_callV (As := []) (ci := 9) (kc' := 0) (ks' := 0) (kc := 0) (ks := 0) dX11_undo_47 ok_X10_comeBack w_X11_311 i_X10_comeBack s_X10_comeBack rfl (by decide) (by first | assumption | rfl) (by first | assumption | omega) rfl rfl rfl (Nat.le_of_ble_eq_true rfl) (Nat.le_of_ble_eq_true rfl) (Nat.le_refl _) (c_comeBack t9 t7 t7b (by omega) (by omega) (by omega) (hR _ _ _ hw.2.2.1) (hR _ _ _ hw.2.2.2) z4 z5 (by omega) ?_)
    rw [e8, e4]
    refine E_incN dX11_undo_50 rfl ?_
    refine E_goto (tgt := 35) dX11_undo_53 (by decide) ?_
    exact E.memE (ih (i + 1) (by omega)) (ud_s I i)
set_option maxRecDepth 100000 in
set_option maxHeartbeats 1000000 in
theorem x_undo (hN : 152 ≤ n) (hR : RS R) (hz : XB I) (hf : I 0 16 = 0 → Q (some (.int 0)) n I J R) (ht : ¬ I 0 16 = 0 → Q (some (.int 1)) n (ud (up2 (up2 (up2 I 0 13 (I 0 17)) 0 14 (I 0 18)) 0 15 (I 0 19)) 12) J R) : E g mX11_undo (d + 2) 0 0 0 (ent 2 [.ref 0]) [] n I J R Q := by
  refine E_aload_n dX11_undo_0 rfl ?_
  refine E_getI dX11_undo_1 f_X11_95 (by first | assumption | rfl) (by first | assumption | omega) rfl ?_
  refine E_if_ne (tgt := 9) dX11_undo_4 (by decide) (fun c4 => ?_) (fun c4 => ?_)
  · refine E_aload_n dX11_undo_9 rfl ?_
    refine E_aload_n dX11_undo_10 rfl ?_
    refine E_getI dX11_undo_11 f_X11_99 (by first | assumption | rfl) (by first | assumption | omega) rfl ?_
    refine E_putI dX11_undo_14 f_X11_86 (by first | assumption | rfl) (by first | assumption | omega) rfl ?_
    refine E_aload_n dX11_undo_17 rfl ?_
    refine E_aload_n dX11_undo_18 rfl ?_
    refine E_getI dX11_undo_19 f_X11_102 (by first | assumption | rfl) (by first | assumption | omega) rfl ?_
    refine E_putI dX11_undo_22 f_X11_89 (by first | assumption | rfl) (by first | assumption | omega) rfl ?_
    refine E_aload_n dX11_undo_25 rfl ?_
    refine E_aload_n dX11_undo_26 rfl ?_
    refine E_getI dX11_undo_27 f_X11_105 (by first | assumption | rfl) (by first | assumption | omega) rfl ?_
    refine E_putI dX11_undo_30 f_X11_92 (by first | assumption | rfl) (by first | assumption | omega) rfl ?_
    refine E_ic (0) dX11_undo_33 (by decide) ?_
    refine E_istore_n dX11_undo_34 (Nat.le_of_ble_eq_true rfl) ?_
    refine E.memE (l_undo (I := up2 (up2 (up2 I 0 13 (I 0 17)) 0 14 (I 0 18)) 0 15 (I 0 19)) hN hR (fun k hk => ?_) (ht c4) 12 0 (by omega)) (ud_0 _).symm
    rw [up2_a _ _ (by omega), up2_a _ _ (by omega), up2_a _ _ (by omega), up2_a _ _ (by omega), up2_a _ _ (by omega), up2_a _ _ (by omega)]
    exact hz k hk
  · refine E_ic (0) dX11_undo_7 (by decide) ?_
    exact E_zret dX11_undo_8 rfl (by decide) (hf c4)
/-- the first i places of the row b become those of a -/
def cp (I : IM) (a b i : Nat) : IM := fun x y => if x = b ∧ y < i then I a y else I x y
theorem cp_0 (I : IM) (a b : Nat) : cp I a b 0 = I := by funext x y; unfold cp; rw [if_neg (by omega)]
theorem cp_s (I : IM) {a b : Nat} (h : a ≠ b) (i : Nat) : up2 (cp I a b i) b i (cp I a b i a i) = cp I a b (i + 1) := by
  funext x y
  unfold up2 cp
  by_cases h1 : x = b ∧ y = i
  · rw [if_pos h1, if_neg (by omega), if_pos (by omega), h1.2]
  · rw [if_neg h1]
    by_cases h2 : x = b ∧ y < i
    · rw [if_pos h2, if_pos (by omega)]
    · rw [if_neg h2, if_neg (by omega)]
set_option maxRecDepth 100000 in
set_option maxHeartbeats 1000000 in
theorem l_copies {a b : Nat} (hsa : LY a = (20, 75)) (hsb : LY b = (20, 75)) (ha : a < n) (hb : b < n) (hab : a ≠ b) (hQ : Q none n (cp I a b 75) J R) : ∀ (m i : Nat), i + m = 75 → E g mX12_copies d 0 0 2 [.ref a, .ref b, .int (nI i)] [] n (cp I a b i) J R Q := by
  intro m
  induction m with
  | zero =>
    intro i hi
    have hi : i = 75 := hi
    subst hi
    refine E_iload_n dX12_copies_2 rfl ?_
    refine E_bp (75) dX12_copies_3 (by decide) ?_
    refine E_icmp_ge (tgt := 20) dX12_copies_5 (by decide) (fun c5 => ?_) (fun c5 => absurd (by decide) c5)
    exact E_ret dX12_copies_20 rfl (hQ)
  | succ m ih =>
    intro i hi
    have hlt : i < 75 := by omega
    refine E_iload_n dX12_copies_2 rfl ?_
    refine E_bp (75) dX12_copies_3 (by decide) ?_
    refine E_icmp_ge (tgt := 20) dX12_copies_5 (by decide) (fun c5 => absurd c5 (nI_ge hlt (by decide))) (fun c5 => ?_)
    refine E_aload_n dX12_copies_8 rfl ?_
    refine E_iload_n dX12_copies_9 rfl ?_
    refine E_aload_n dX12_copies_10 rfl ?_
    refine E_iload_n dX12_copies_11 rfl ?_
    refine E_ialdN dX12_copies_12 hsa ha hlt ?_
    refine E_iastN dX12_copies_13 hsb hb hlt ?_
    refine E_incN dX12_copies_14 rfl ?_
    refine E_goto (tgt := 2) dX12_copies_17 (by decide) ?_
    exact E.memE (ih (i + 1) (by omega)) (cp_s I hab i)
set_option maxRecDepth 100000 in
set_option maxHeartbeats 1000000 in
theorem m_copies {a b : Nat} (hsa : LY a = (20, 75)) (hsb : LY b = (20, 75)) (ha : a < n) (hb : b < n) (hab : a ≠ b) (hQ : Q none n (cp I a b 75) J R) : E g mX12_copies d 0 0 0 (ent 3 [.ref a, .ref b]) [] n I J R Q := by
  refine E_ic (0) dX12_copies_0 (by decide) ?_
  refine E_istore_n dX12_copies_1 (Nat.le_of_ble_eq_true rfl) ?_
  exact E.memE (l_copies hsa hsb ha hb hab hQ 75 0 (by omega)) (cp_0 I a b).symm
set_option maxRecDepth 100000 in
set_option maxHeartbeats 1000000 in
theorem m_keep (hN : 152 ≤ n) (hR : RS R) (hQ : Q (some (.int (I 115 73))) n (cp (up2 I 114 58 1) 115 117 75) J R) : E g mX12_keep (d + 1) 0 0 0 (ent 1 [.ref 114]) [] n I J R Q := by
  refine E_aload_n dX12_keep_0 rfl ?_
  refine E_ic (1) dX12_keep_1 (by decide) ?_
  refine E_putZ dX12_keep_2 f_X12_423 (by first | assumption | rfl) (by first | assumption | omega) rfl (by decide) ?_
  refine E_aload_n dX12_keep_5 rfl ?_
  refine E_getR dX12_keep_6 f_X12_7 (by first | assumption | rfl) (by first | assumption | omega) rfl (by first | exact hR _ _ _ rfl | assumption) ?_
  refine E_aload_n dX12_keep_9 rfl ?_
  refine E_getR dX12_keep_10 f_X12_16 (by first | assumption | rfl) (by first | assumption | omega) rfl (by first | exact hR _ _ _ rfl | assumption) ?_
  refine E_callS (As := [_, _]) (kc' := 0) (ks' := 0) (kc := 0) (ks := 0) dX12_keep_13 ok_X12_copies w_X12_346 st_X12_copies rfl rfl rfl (Nat.le_of_ble_eq_true rfl) (Nat.le_of_ble_eq_true rfl) (Nat.le_refl _) (m_copies rfl rfl (by omega) (by omega) (by decide) ?_)
  refine E_aload_n dX12_keep_16 rfl ?_
  refine E_getR dX12_keep_17 f_X12_7 (by first | assumption | rfl) (by first | assumption | omega) rfl (by first | exact hR _ _ _ rfl | assumption) ?_
  refine E_bp (73) dX12_keep_20 (by decide) ?_
  refine E_ialdN (i := 73) dX12_keep_22 rfl (by omega) (by decide) ?_
  exact E_iret dX12_keep_23 rfl (hQ)
/-- the reference's OUT, no more than there are LAYERS -/
def um (I : IM) (i : Nat) : IM := fun x y => if x = 115 ∧ 60 ≤ y ∧ y < 60 + i then (if I 115 y < I 118 (y - 60) then I 115 y else I 118 (y - 60)) else I x y
theorem um_0 (I : IM) : um I 0 = I := by funext x y; unfold um; rw [if_neg (by omega)]
theorem um_s (I : IM) (i : Nat) : up2 (um I i) 115 (60 + i) (if um I i 115 (60 + i) < um I i 118 i then um I i 115 (60 + i) else um I i 118 i) = um I (i + 1) := by
  funext x y
  have e1 : um I i 115 (60 + i) = I 115 (60 + i) := by unfold um; rw [if_neg (by omega)]
  have e2 : um I i 118 i = I 118 i := by unfold um; rw [if_neg (by omega)]
  rw [e1, e2]
  unfold up2
  by_cases h : x = 115 ∧ y = 60 + i
  · rw [if_pos h]
    unfold um
    rw [if_pos (show x = 115 ∧ 60 ≤ y ∧ y < 60 + (i + 1) by omega), h.2, show 60 + i - 60 = i by omega]
  · rw [if_neg h]
    unfold um
    by_cases h2 : x = 115 ∧ 60 ≤ y ∧ y < 60 + i
    · rw [if_pos h2, if_pos (show x = 115 ∧ 60 ≤ y ∧ y < 60 + (i + 1) by omega)]
    · rw [if_neg h2, if_neg (by omega)]
set_option maxRecDepth 100000 in
set_option maxHeartbeats 1000000 in
theorem m_min {x y : Int32} (hQ : Q (some (.int (if x < y then x else y))) n I J R) : E g mX12_min d 0 0 0 (ent 2 [.int x, .int y]) [] n I J R Q := by
  refine E_iload_n dX12_min_0 rfl ?_
  refine E_iload_n dX12_min_1 rfl ?_
  refine E_icmp_ge (tgt := 9) dX12_min_2 (by decide) (fun c2 => ?_) (fun c2 => ?_)
  · refine E_iload_n dX12_min_9 rfl ?_
    exact E_iret dX12_min_10 rfl (by first | (rw [if_neg (Int32.not_lt.mpr c2)] at hQ; exact hQ) | (rw [if_pos (Int32.not_le.mp c2)] at hQ; exact hQ))
  · refine E_iload_n dX12_min_5 rfl ?_
    refine E_goto (tgt := 10) dX12_min_6 (by decide) ?_
    exact E_iret dX12_min_10 rfl (by first | (rw [if_neg (Int32.not_lt.mpr c2)] at hQ; exact hQ) | (rw [if_pos (Int32.not_le.mp c2)] at hQ; exact hQ))
set_option maxRecDepth 100000 in
set_option maxHeartbeats 1000000 in
theorem l_mundo (hN : 152 ≤ n) (hR : RS R) (hQ : Q (some (.int 1)) n (um I 12) J R) : ∀ (m i : Nat), i + m = 12 → E g mX12_undo (d + 1) 0 0 22 [.ref 114, .int (nI i)] [] n (um I i) J R Q := by
  intro m
  induction m with
  | zero =>
    intro i hi
    have hi : i = 12 := hi
    subst hi
    refine E_iload_n dX12_undo_22 rfl ?_
    refine E_bp (12) dX12_undo_23 (by decide) ?_
    refine E_icmp_ge (tgt := 61) dX12_undo_25 (by decide) (fun c25 => ?_) (fun c25 => absurd (by decide) c25)
    refine E_ic (1) dX12_undo_61 (by decide) ?_
    exact E_zret dX12_undo_62 rfl (by decide) (hQ)
  | succ m ih =>
    intro i hi
    have hlt : i < 12 := by omega
    refine E_iload_n dX12_undo_22 rfl ?_
    refine E_bp (12) dX12_undo_23 (by decide) ?_
    refine E_icmp_ge (tgt := 61) dX12_undo_25 (by decide) (fun c25 => absurd c25 (nI_ge hlt (by decide))) (fun c25 => ?_)
    refine E_aload_n dX12_undo_28 rfl ?_
    refine E_getR dX12_undo_29 f_X12_7 (by first | assumption | rfl) (by first | assumption | omega) rfl (by first | exact hR _ _ _ rfl | assumption) ?_
    refine E_bp (60) dX12_undo_32 (by decide) ?_
    refine E_iload_n dX12_undo_34 rfl ?_
    refine E_iadd dX12_undo_35 ?_
    refine E.top (show (60 : Int32) + nI i = nI (60 + i) from nI_add 60 i) ?_
    refine E_aload_n dX12_undo_36 rfl ?_
    refine E_getR dX12_undo_37 f_X12_7 (by first | assumption | rfl) (by first | assumption | omega) rfl (by first | exact hR _ _ _ rfl | assumption) ?_
    refine E_bp (60) dX12_undo_40 (by decide) ?_
    refine E_iload_n dX12_undo_42 rfl ?_
    refine E_iadd dX12_undo_43 ?_
    refine E.top (show (60 : Int32) + nI i = nI (60 + i) from nI_add 60 i) ?_
    refine E_ialdN dX12_undo_44 rfl (by omega) (by omega) ?_
    refine E_aload_n dX12_undo_45 rfl ?_
    refine E_getR dX12_undo_46 f_X12_19 (by first | assumption | rfl) (by first | assumption | omega) rfl (by first | exact hR _ _ _ rfl | assumption) ?_
    refine E_iload_n dX12_undo_49 rfl ?_
    refine E_ialdN dX12_undo_50 rfl (by omega) hlt ?_
    refine E_callS (As := [_, _]) (kc' := 0) (ks' := 0) (kc := 0) (ks := 0) dX12_undo_51 ok_X12_min w_X12_292 st_X12_min rfl rfl rfl (Nat.le_of_ble_eq_true rfl) (Nat.le_of_ble_eq_true rfl) (Nat.le_refl _) (m_min ?_)
    refine E_iastN dX12_undo_54 rfl (by omega) (by omega) ?_
    refine E_incN dX12_undo_55 rfl ?_
    refine E_goto (tgt := 22) dX12_undo_58 (by decide) ?_
    exact E.memE (ih (i + 1) (by omega)) (um_s I i)
set_option maxRecDepth 100000 in
set_option maxHeartbeats 1000000 in
theorem m_undo (hN : 152 ≤ n) (hR : RS R) (hf : I 114 58 = 0 → Q (some (.int 0)) n I J R) (ht : ¬ I 114 58 = 0 → Q (some (.int 1)) n (um (cp I 117 115 75) 12) J R) : E g mX12_undo (d + 1) 0 0 0 (ent 2 [.ref 114]) [] n I J R Q := by
  refine E_aload_n dX12_undo_0 rfl ?_
  refine E_getI dX12_undo_1 f_X12_423 (by first | assumption | rfl) (by first | assumption | omega) rfl ?_
  refine E_if_ne (tgt := 9) dX12_undo_4 (by decide) (fun c4 => ?_) (fun c4 => ?_)
  · refine E_aload_n dX12_undo_9 rfl ?_
    refine E_getR dX12_undo_10 f_X12_16 (by first | assumption | rfl) (by first | assumption | omega) rfl (by first | exact hR _ _ _ rfl | assumption) ?_
    refine E_aload_n dX12_undo_13 rfl ?_
    refine E_getR dX12_undo_14 f_X12_7 (by first | assumption | rfl) (by first | assumption | omega) rfl (by first | exact hR _ _ _ rfl | assumption) ?_
    refine E_callS (As := [_, _]) (kc' := 0) (ks' := 0) (kc := 0) (ks := 0) dX12_undo_17 ok_X12_copies w_X12_346 st_X12_copies rfl rfl rfl (Nat.le_of_ble_eq_true rfl) (Nat.le_of_ble_eq_true rfl) (Nat.le_refl _) (m_copies rfl rfl (by omega) (by omega) (by decide) ?_)
    refine E_ic (0) dX12_undo_20 (by decide) ?_
    refine E_istore_n dX12_undo_21 (Nat.le_of_ble_eq_true rfl) ?_
    exact E.memE (l_mundo hN hR (ht c4) 12 0 (by omega)) (um_0 _).symm
  · refine E_ic (0) dX12_undo_7 (by decide) ?_
    exact E_zret dX12_undo_8 rfl (by decide) (hf c4)
def u_keep (σ : ST) : ST := ups (ups (ups σ 5 (fun _ _ => 1)) 6 (σ 3)) 7 (σ 4)
def r_keep (σ : ST) : Value := .int (nI (σ 4 1 0))
def u_undo (σ : ST) : ST := if σ 5 0 0 = 1 then ups (ups σ 3 (fun k f => if f = 3 then min (σ 6 k 3) (σ 0 k 0) else σ 6 k f)) 4 (σ 7) else σ
def r_undo (σ : ST) : Value := .int (nI (σ 5 0 0))
theorem b_keep : ∀ σ, BND σ → BND (u_keep σ) := by
  intro σ h
  obtain ⟨h1, h2, h5, h6, h7, h8, h9⟩ := h
  exact ⟨h1, h2, Nat.le_refl 1, fun _ => ⟨fun k hk => (h1 k hk).2.2.1, h2⟩, h7, h8, fun k hk z => ⟨(h9 k hk z).1, (h9 k hk z).2.1, fun _ => ⟨(h9 k hk z).1, (h9 k hk z).2.1⟩⟩⟩
theorem b_undo : ∀ σ, BND σ → BND (u_undo σ) := by
  intro σ h
  unfold u_undo
  split
  · rename_i hc
    obtain ⟨h1, h2, h5, h6, h7, h8, h9⟩ := h
    obtain ⟨k1, k2⟩ := h6 hc
    refine ⟨fun k hk => ⟨(h1 k hk).1, (h1 k hk).2.1, ?_, ?_⟩, k2, h5, h6, h7, h8, fun k hk z => ⟨((h9 k hk z).2.2 hc).1, ((h9 k hk z).2.2 hc).2, (h9 k hk z).2.2⟩⟩
    · obtain ⟨q0, q1, q2, q3, q4, q5, q6, q7⟩ := k1 k hk
      exact ⟨q0, q1, q2, Nat.le_trans (Nat.min_le_left _ _) q3, q4, q5, q6, q7⟩
    · exact Nat.min_le_right _ _
  · exact h
theorem BND.z {σ : ST} (h : BND σ) {I : IM} {n : Nat} {R : RM} (hX : XR σ n I R) : ∀ k, k < 12 → BZ (I (57 + 5 * k) 4) ∧ BZ (I (57 + 5 * k) 5) := by
  intro k hk
  obtain ⟨-, -, -, h3, -⟩ := hX.1 k hk
  obtain ⟨-, -, ⟨-, -, -, -, q4, q5, -⟩, -⟩ := h.1 k hk
  rw [h3 4 (by decide), h3 5 (by decide)]
  exact ⟨BZ_n q4, BZ_n q5⟩
set_option maxRecDepth 100000 in
set_option maxHeartbeats 1000000 in
theorem sx_keep : SX mX11_keep [] r_keep u_keep := by
  intro g n I J R σ Q hB hX hQ
  have hn := hX.2.2.2.1.n
  have hz := hB.z hX
  obtain ⟨h1, ⟨k1, k2, k3, k4, k5, k6⟩, h3, h4, h5⟩ := hX
  refine x_keep (d := 899) hn.1 h4.1 hz ?_
  generalize hI : up2 (up2 (up2 (up2 I 0 16 1) 0 17 (I 0 13)) 0 18 (I 0 14)) 0 19 (I 0 15) = I1
  rw [k3]
  have o1 : ∀ a, a ≠ 0 → I1 a = I a := fun a ha => by rw [← hI]; rw [up2_o _ _ _ _ a ha, up2_o _ _ _ _ a ha, up2_o _ _ _ _ a ha, up2_o _ _ _ _ a ha]
  have o2 : ∀ a, a < 58 → kp I1 12 a = I1 a := fun a ha => funext fun y => kp_o (by omega)
  have o3 : ∀ a, 114 ≤ a → kp I1 12 a = I1 a := fun a ha => funext fun y => kp_o (by omega)
  refine hQ (kp I1 12) J ?_ (fun a a1 a2 => by rw [o2 a (by omega), o1 a (by omega)]) (fun a a1 a2 => by rw [o3 a a1, o1 a (by omega)])
  have kk : ∀ k f, k < 12 → f < 6 → kp I1 12 (58 + 5 * k) f = I (57 + 5 * k) f := fun k f hk hf => by
    unfold kp
    rw [if_pos (by omega), show 58 + 5 * k - 1 = 57 + 5 * k by omega, o1 _ (by omega)]
  have ke : ∀ a, 54 ≤ a → a < 114 → (a - 58) % 5 ≠ 0 ∨ a < 58 → kp I1 12 a = I a := fun a a1 a2 a3 => by
    rw [show kp I1 12 a = I1 a from funext fun y => kp_o (by omega), o1 a (by omega)]
  refine ⟨fun k hk => ?_, ?_, ?_, h4, fun k hk => ?_⟩
  · obtain ⟨w1, w2, w3, w4, w5⟩ := h1 k hk
    rw [ke (54 + 5 * k) (by omega) (by omega) (by omega), ke (55 + 5 * k) (by omega) (by omega) (by omega), ke (56 + 5 * k) (by omega) (by omega) (by omega), ke (57 + 5 * k) (by omega) (by omega) (by omega)]
    exact ⟨w1, w2, w3, w4, fun _ f hf => by rw [kk k f hk hf]; exact w4 f hf⟩
  · rw [o2 0 (by decide), ← hI]
    exact ⟨k1, k2, k3, k4, rfl, fun _ => ⟨k2, k3, k4⟩⟩
  · rw [o2 2 (by decide), o1 2 (by decide)]
    exact h3
  · rw [kk k 4 hk (by decide), kk k 5 hk (by decide)]
    exact hz k hk
set_option maxRecDepth 100000 in
set_option maxHeartbeats 1000000 in
theorem sm_keep : SM mX12_keep [] r_keep u_keep := by
  intro g n I J R σ Q hB hM hn hR hQ
  obtain ⟨h1, h2, h3, ⟨h4, h4b⟩, h5, h6⟩ := hM
  refine m_keep (d := 899) hn hR ?_
  rw [h2.2.2.1]
  generalize hI : up2 I 114 58 1 = I1
  have o1 : ∀ a, a ≠ 114 → I1 a = I a := fun a ha => by rw [← hI, up2_o _ _ _ _ a ha]
  have o2 : ∀ a, a ≠ 117 → cp I1 115 117 75 a = I1 a := fun a ha => funext fun y => by unfold cp; rw [if_neg (by omega)]
  refine hQ (cp I1 115 117 75) J ?_ (fun a a1 => by rw [o2 a (by omega), o1 a (by omega)]) (by rw [o2 114 (by decide), ← hI]; rfl) (fun a a1 a2 => by rw [o2 a (by omega), o1 a (by omega)])
  have e7 : ∀ y, y < 75 → cp I1 115 117 75 117 y = I 115 y := fun y hy => by unfold cp; rw [if_pos ⟨rfl, hy⟩, o1 115 (by decide)]
  refine ⟨MW.congr (I := I) h1 (by rw [o2 118 (by decide), o1 118 (by decide)]) (by rw [o2 119 (by decide), o1 119 (by decide)]) (by rw [o2 120 (by decide), o1 120 (by decide)]), ?_, ?_, ?_, ?_, ?_⟩
  · rw [o2 115 (by decide), o1 115 (by decide)]
    exact h2
  · intro _
    refine ⟨fun k hk => ?_, ?_, ?_, ?_⟩
    · rw [e7 k (by omega), e7 (12 + k) (by omega), e7 (24 + k) (by omega), e7 (36 + k) (by omega), e7 (48 + k) (by omega), e7 (60 + k) (by omega)]
      exact h2.1 k hk
    · rw [e7 72 (by decide)]; exact h2.2.1
    · rw [e7 73 (by decide)]; exact h2.2.2.1
    · rw [e7 74 (by decide)]; exact h2.2.2.2
  · rw [o2 114 (by decide), ← hI]
    exact ⟨h4, rfl⟩
  · rw [o2 121 (by decide), o1 121 (by decide)]
    exact h5
  · intro j
    rw [o2 140 (by decide), o1 140 (by decide)]
    exact h6 j
set_option maxRecDepth 100000 in
set_option maxHeartbeats 1000000 in
theorem sx_undo : SX mX11_undo [] r_undo u_undo := by
  intro g n I J R σ Q hB hX hQ
  have hn := hX.2.2.2.1.n
  obtain ⟨h1, ⟨k1, k2, k3, k4, k5, k6⟩, h3, h4, h5⟩ := id hX
  have b5 := hB.2.2.1
  refine x_undo (d := 898) hn.1 h4.1 h5 (fun c => ?_) (fun c => ?_)
  · have hc : σ 5 0 0 = 0 := by
      rw [k5] at c
      exact (nI_eq (by omega) (by decide)).mp c
    have := hQ I J (by unfold u_undo; rw [if_neg (by omega)]; exact hX) (fun _ _ _ => rfl) (fun _ _ _ => rfl)
    unfold r_undo at this
    rw [hc] at this
    exact this
  · have hc : σ 5 0 0 = 1 := by
      rcases Nat.lt_or_ge (σ 5 0 0) 1 with q | q
      · exfalso
        apply c
        rw [k5, show σ 5 0 0 = 0 by omega]
        rfl
      · omega
    obtain ⟨j1, j2, j3⟩ := k6 hc
    generalize hI : up2 (up2 (up2 I 0 13 (I 0 17)) 0 14 (I 0 18)) 0 15 (I 0 19) = I1
    have o1 : ∀ a, a ≠ 0 → I1 a = I a := fun a ha => by rw [← hI]; rw [up2_o _ _ _ _ a ha, up2_o _ _ _ _ a ha, up2_o _ _ _ _ a ha]
    have ke : ∀ a, ¬ (57 ≤ a ∧ (a - 57) % 5 = 0 ∧ (a - 57) / 5 < 12) → ud I1 12 a = I1 a := fun a ha => funext fun y => ud_o ha
    have := hQ (ud I1 12) J ?_ (fun a a1 a2 => by rw [ke a (by omega), o1 a (by omega)]) (fun a a1 a2 => by rw [ke a (by omega), o1 a (by omega)])
    · unfold r_undo at this
      rw [hc] at this
      exact this
    · unfold u_undo
      rw [if_pos hc]
      obtain ⟨b1, -, -, b6, -⟩ := hB
      refine ⟨fun k hk => ?_, ?_, ?_, h4, fun k hk => ?_⟩
      · obtain ⟨w1, w2, w3, w4, w5⟩ := h1 k hk
        rw [ke (54 + 5 * k) (by omega), ke (55 + 5 * k) (by omega), ke (56 + 5 * k) (by omega), ke (58 + 5 * k) (by omega), o1 (54 + 5 * k) (by omega), o1 (55 + 5 * k) (by omega), o1 (56 + 5 * k) (by omega), o1 (58 + 5 * k) (by omega)]
        refine ⟨w1, w2, w3, fun f hf => ?_, w5⟩
        have hle := (b1 k hk).1
        have h24 := ((b6 hc).1 k hk).2.2.2.1
        show ud I1 12 (57 + 5 * k) f = nI (if f = 3 then min (σ 6 k 3) (σ 0 k 0) else σ 6 k f)
        unfold ud
        rw [if_pos (by omega), show 57 + 5 * k + 1 = 58 + 5 * k by omega, show 57 + 5 * k - 3 = 54 + 5 * k by omega, o1 (58 + 5 * k) (by omega), o1 (54 + 5 * k) (by omega)]
        by_cases h3 : f = 3
        · rw [if_pos h3, if_pos h3, w5 hc 3 (by decide), w1]
          unfold imin
          by_cases hm : σ 0 k 0 < σ 6 k 3
          · rw [if_pos ((nI_ltI (by omega) (by omega)).mpr hm), Nat.min_eq_right (by omega)]
          · rw [if_neg (fun z => hm ((nI_ltI (by omega) (by omega)).mp z)), Nat.min_eq_left (by omega)]
        · rw [if_neg h3, if_neg h3]
          exact w5 hc f hf
      · rw [ke 0 (by decide), ← hI]
        exact ⟨k1, j1, j2, j3, k5, fun _ => ⟨j1, j2, j3⟩⟩
      · rw [ke 2 (by decide), o1 2 (by decide)]
        exact h3
      · rw [ke (58 + 5 * k) (by omega), o1 (58 + 5 * k) (by omega)]
        exact h5 k hk
set_option maxRecDepth 100000 in
set_option maxHeartbeats 1000000 in
theorem sm_undo : SM mX12_undo [] r_undo u_undo := by
  intro g n I J R σ Q hB hM hn hR hQ
  obtain ⟨h1, h2, h3, ⟨h4, h4b⟩, h5, h6⟩ := id hM
  have b5 := hB.2.2.1
  refine m_undo (d := 899) hn hR (fun c => ?_) (fun c => ?_)
  · have hc : σ 5 0 0 = 0 := by
      rw [h4b] at c
      exact (nI_eq (by omega) (by decide)).mp c
    have := hQ I J (by unfold u_undo; rw [if_neg (by omega)]; exact hM) (fun _ _ => rfl) rfl (fun _ _ _ => rfl)
    unfold r_undo at this
    rw [hc] at this
    exact this
  · have hc : σ 5 0 0 = 1 := by
      rcases Nat.lt_or_ge (σ 5 0 0) 1 with q | q
      · exfalso
        apply c
        rw [h4b, show σ 5 0 0 = 0 by omega]
        rfl
      · omega
    obtain ⟨q0, q1, q2, q3⟩ := h3 hc
    have o2 : ∀ a, a ≠ 115 → um (cp I 117 115 75) 12 a = I a := fun a ha => funext fun y => by unfold um cp; rw [if_neg (by omega), if_neg (by omega)]
    have e5 : ∀ y, y < 75 → ¬ (60 ≤ y ∧ y < 72) → um (cp I 117 115 75) 12 115 y = I 117 y := fun y hy hn => by unfold um cp; rw [if_neg (by omega), if_pos ⟨rfl, hy⟩]
    have := hQ (um (cp I 117 115 75) 12) J ?_ (fun a a1 => o2 a (by omega)) (by rw [o2 114 (by decide)]) (fun a a1 a2 => o2 a (by omega))
    · unfold r_undo at this
      rw [hc] at this
      exact this
    · unfold u_undo
      rw [if_pos hc]
      obtain ⟨b1, -, -, b6, -⟩ := hB
      refine ⟨MW.congr (I := I) h1 (o2 118 (by decide)) (o2 119 (by decide)) (o2 120 (by decide)), ⟨fun k hk => ?_, ?_, ?_, ?_⟩, ?_, ?_, ?_, ?_⟩
      · obtain ⟨f0, f1, f2, f3, f4, f5⟩ := q0 k hk
        rw [e5 k (by omega) (by omega), e5 (12 + k) (by omega) (by omega), e5 (24 + k) (by omega) (by omega), e5 (36 + k) (by omega) (by omega), e5 (48 + k) (by omega) (by omega)]
        refine ⟨f0, f1, f2, f3, f4, ?_⟩
        have hle := (b1 k hk).1
        have h24 := ((b6 hc).1 k hk).2.2.2.1
        show um (cp I 117 115 75) 12 115 (60 + k) = nI (min (σ 6 k 3) (σ 0 k 0))
        unfold um
        rw [if_pos (by omega), show 60 + k - 60 = k by omega]
        have c1 : cp I 117 115 75 115 (60 + k) = I 117 (60 + k) := by unfold cp; rw [if_pos (by omega)]
        have c2 : cp I 117 115 75 118 k = I 118 k := by unfold cp; rw [if_neg (by omega)]
        rw [c1, c2, f5, (h1 k hk).1]
        by_cases hm : σ 6 k 3 < σ 0 k 0
        · rw [if_pos ((nI_ltI (by omega) (by omega)).mpr hm), Nat.min_eq_left (by omega)]
        · rw [if_neg (fun z => hm ((nI_ltI (by omega) (by omega)).mp z)), Nat.min_eq_right (by omega)]
      · rw [e5 72 (by decide) (by decide)]; exact q1
      · rw [e5 73 (by decide) (by decide)]; exact q2
      · rw [e5 74 (by decide) (by decide)]; exact q3
      · intro _
        rw [o2 117 (by decide)]
        exact h3 hc
      · rw [o2 114 (by decide)]
        exact ⟨h4, h4b⟩
      · rw [o2 121 (by decide)]
        exact h5
      · intro j
        rw [o2 140 (by decide)]
        exact h6 j
end PKeep
