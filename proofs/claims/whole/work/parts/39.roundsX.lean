/-! ===== the texts with rounds, as the class reads them ===== -/
def CTx (t : Nat → Nat) (L most il : Nat) (I : IM) (R : RM) : Prop := I 20 2 = nI L ∧ I 20 5 = nI most ∧ I 20 7 = nI il ∧ (∀ j, j < L → I 2 j = nI (t j)) ∧ R 20 1 = some 2
def RFx (I I' : IM) : Prop := (∀ x, x ≠ 20 → x ≠ 21 → I' x = I x) ∧ I' 20 2 = I 20 2 ∧ I' 20 5 = I 20 5 ∧ I' 20 7 = I 20 7
def RPx (p s : Nat) (f : FN) (I : IM) : Prop := I 20 3 = nI p ∧ I 20 4 = nI s ∧ ∀ i, i < s → i < 96 → I 21 i = nI (f i)
theorem RFx.refl (I : IM) : RFx I I := ⟨fun _ _ _ => rfl, rfl, rfl, rfl⟩
theorem RFx.trans {I I' I2 : IM} (h : RFx I I') (h2 : RFx I' I2) : RFx I I2 := ⟨fun x a b => (h2.1 x a b).trans (h.1 x a b), h2.2.1.trans h.2.1, h2.2.2.1.trans h.2.2.1, h2.2.2.2.trans h.2.2.2⟩
theorem CTx.keep {t : Nat → Nat} {L most il : Nat} {I I' : IM} {R : RM} (h : CTx t L most il I R) (h2 : RFx I I') : CTx t L most il I' R := ⟨h2.2.1.trans h.1, h2.2.2.1.trans h.2.1, h2.2.2.2.trans h.2.2.1, fun j hj => (congrFun (h2.1 2 (by decide) (by decide)) j).trans (h.2.2.2.1 j hj), h.2.2.2.2⟩
theorem RFx.up (I : IM) {k : Nat} (v : Int32) (h : k = 3 ∨ k = 4 ∨ k = 6) : RFx I (up2 I 20 k v) := ⟨fun x a _ => up2_o I 20 k v x a, up2_k I v (by omega), up2_k I v (by omega), up2_k I v (by omega)⟩
theorem RFx.up1 (I : IM) (k : Nat) (v : Int32) : RFx I (up2 I 21 k v) := ⟨fun x _ b => up2_o I 21 k v x b, congrFun (up2_o I 21 k v 20 (by decide)) 2, congrFun (up2_o I 21 k v 20 (by decide)) 5, congrFun (up2_o I 21 k v 20 (by decide)) 7⟩
theorem RPx.at {p q s : Nat} {f : FN} {I : IM} (h : RPx p s f I) : RPx q s f (up2 I 20 3 (nI q)) := ⟨up2_s _ _ _ _, (up2_k I _ (by decide)).trans h.2.1, fun i h1 h2 => (congrFun (up2_o I 20 3 _ 21 (by decide)) i).trans (h.2.2 i h1 h2)⟩
theorem RPx.fl {p s : Nat} {f : FN} {I : IM} {v : Int32} (h : RPx p s f I) : RPx p s f (up2 I 20 6 v) := ⟨(up2_k I _ (by decide)).trans h.1, (up2_k I _ (by decide)).trans h.2.1, fun i h1 h2 => (congrFun (up2_o I 20 6 _ 21 (by decide)) i).trans (h.2.2 i h1 h2)⟩
theorem okc.in {t : Nat → Nat} {L : Nat} {c : Nat → Nat} (h : okc t L c) {p : Nat} (hp : p < L) : chI (c p) = nI (t p) := by
  rcases h.at p with ⟨_, h2, h3⟩ | ⟨h2, _⟩
  · rw [h2]
    exact if_pos h3
  · omega
theorem okc.out {t : Nat → Nat} {L : Nat} {c : Nat → Nat} (h : okc t L c) {p : Nat} (hp : L ≤ p) : chI (c p) = -1 := by
  rcases h.at p with ⟨h2, _⟩ | ⟨_, h2⟩
  · omega
  · rw [h2]
    rfl
/-- what a reading method owes -/
def ROx (I : IM) (J : JM) (R : RM) (n : Nat) (Q : PQ) : RR → Prop
  | .inl x => ∀ I' : IM, RFx I I' → I' 20 6 = x → Q (some (.int 0)) n I' J R
  | .inr r => ∀ I' : IM, RFx I I' → RPx r.1 r.2.1 r.2.2 I' → Q (some (.int 1)) n I' J R
theorem ROx.from {I I1 : IM} {J : JM} {R : RM} {n : Nat} {Q : PQ} (h : RFx I I1) : ∀ {r : RR}, ROx I J R n Q r → ROx I1 J R n Q r
  | .inl _, q => fun I' a b => q I' (h.trans a) b
  | .inr _, q => fun I' a b => q I' (h.trans a) b
theorem pl_dl (c : Nat) : plc [116, 112, 115, 98, 111, 99] 0 (chI c) = if dlS c < 6 then nI (dlS c) else -1 := by
  by_cases h : c < 256
  · have key : ∀ c, c < 256 → plc [116, 112, 115, 98, 111, 99] 0 (chI c) = if dlS c < 6 then nI (dlS c) else -1 := by decide +kernel
    exact key c h
  · rw [show chI c = -1 from if_neg h, show dlS c = 6 by unfold dlS; rw [if_neg (by omega), if_neg (by omega), if_neg (by omega), if_neg (by omega), if_neg (by omega), if_neg (by omega)]]
    decide
section PRoundsX
variable {g : GL} {d n : Nat} {I : IM} {J : JM} {R : RM} {Q : PQ} {t c : Nat → Nat} {L most il p s : Nat} {f : FN}
set_option maxRecDepth 100000 in
set_option maxHeartbeats 2000000 in
theorem x_next (hN : 152 ≤ n) (hR : RS R) (hc : okc t L c) (hL : L ≤ 260) (hC : CTx t L most il I R) (hp : p < 1000) (h3 : I 20 3 = nI p) (hQ : Q (some (.int (chI (c p)))) n I J R) : E g mX7_next d 0 0 0 (ent 1 [.ref 20]) [] n I J R Q := by
  refine E_aload_n dX7_next_0 rfl ?_
  refine E_getI dX7_next_1 f_X7_22 rfl (Nat.lt_of_lt_of_le (by decide) hN) rfl ?_
  refine E.top (h3) ?_
  refine E_zN_lt (a := p) (tgt := 30) dX7_next_4 (by omega) (by decide) (fun c4 => c4.elim) (fun c4 => ?_)
  refine E_aload_n dX7_next_7 rfl ?_
  refine E_getI dX7_next_8 f_X7_22 rfl (Nat.lt_of_lt_of_le (by decide) hN) rfl ?_
  refine E.top (h3) ?_
  refine E_aload_n dX7_next_11 rfl ?_
  refine E_getI dX7_next_12 f_X7_18 rfl (Nat.lt_of_lt_of_le (by decide) hN) rfl ?_
  refine E.top (hC.1) ?_
  refine E_cN_ge (a := p) (b := L) (tgt := 30) dX7_next_15 (by omega) (by omega) (by decide) (fun c15 => ?_) (fun c15 => ?_)
  · refine E_ic (-1) dX7_next_30 (by decide) ?_
    exact E_iret dX7_next_31 rfl (by first | (rw [hc.in c15] at hQ; exact hQ) | (rw [hc.out c15] at hQ; exact hQ))
  · refine E_aload_n dX7_next_18 rfl ?_
    refine E_getR dX7_next_19 f_X7_15 rfl (Nat.lt_of_lt_of_le (by decide) hN) rfl hC.2.2.2.2 ?_
    refine E_aload_n dX7_next_22 rfl ?_
    refine E_getI dX7_next_23 f_X7_22 rfl (Nat.lt_of_lt_of_le (by decide) hN) rfl ?_
    refine E.top (h3) ?_
    refine E_ialdN dX7_next_26 rfl (Nat.lt_of_lt_of_le (by decide) hN) (by omega) ?_
    refine E.top (hC.2.2.2.1 p c15) ?_
    refine E_goto (tgt := 31) dX7_next_27 (by decide) ?_
    exact E_iret dX7_next_31 rfl (by first | (rw [hc.in c15] at hQ; exact hQ) | (rw [hc.out c15] at hQ; exact hQ))
set_option maxRecDepth 100000 in
set_option maxHeartbeats 2000000 in
theorem x_failsR {k q : Nat} (hN : 152 ≤ n) (hQ : Q (some (.int 0)) n (up2 I 20 6 (flt k q)) J R) : E g mX7_fails d 0 0 0 (ent 3 [.ref 20, .int (nI k), .int (nI q)]) [] n I J R Q := by
  refine E_aload_n dX7_fails_0 rfl ?_
  refine E_sp (-1000) dX7_fails_1 (by decide) ?_
  refine E_iload_n dX7_fails_4 rfl ?_
  refine E_imul dX7_fails_5 ?_
  refine E_iload_n dX7_fails_6 rfl ?_
  refine E_isub dX7_fails_7 ?_
  refine E_putI dX7_fails_8 f_X7_31 rfl (Nat.lt_of_lt_of_le (by decide) hN) rfl ?_
  refine E_ic (nI 0) dX7_fails_11 (by decide) ?_
  exact E_zret dX7_fails_12 rfl (by decide) (hQ)
set_option maxRecDepth 100000 in
set_option maxHeartbeats 2000000 in
theorem x_closes {sg : Int32} (hN : 152 ≤ n) (hR : RS R) (hc : okc t L c) (hL : L ≤ 260) (hC : CTx t L most il I R) (hp : p < 999) (hP : RPx p s f I) (ht : chI (c p) = sg → Q (some (.int 1)) n (up2 I 20 3 (nI (p + 1))) J R) (hf : ¬ chI (c p) = sg → Q (some (.int 0)) n (up2 I 20 6 (flt 1 p)) J R) : E g mX7_closes (d + 1) 0 0 0 (ent 2 [.ref 20, .int sg]) [] n I J R Q := by
  refine E_aload_n dX7_closes_0 rfl ?_
  refine E_callV (As := []) (ci := 6) (kc' := 0) (ks' := 0) (kc := 0) (ks := 0) dX7_closes_1 ok_X7_next w_X7_51 i_X7_next s_X7_next rfl (by decide) rfl (Nat.lt_of_lt_of_le (by decide) hN) rfl rfl rfl (Nat.le_of_ble_eq_true rfl) (Nat.le_of_ble_eq_true rfl) (Nat.le_refl _) (x_next hN hR hc hL hC (p := p) (by omega) (hP.1) ?_)
  refine E_iload_n dX7_closes_4 rfl ?_
  refine E_icmp_eq (tgt := 18) dX7_closes_5 (by decide) (fun c5 => ?_) (fun c5 => ?_)
  · refine E_aload_n dX7_closes_18 rfl ?_
    refine E_dup dX7_closes_19 rfl ?_
    refine E_getI dX7_closes_20 f_X7_22 rfl (Nat.lt_of_lt_of_le (by decide) hN) rfl ?_
    refine E.top (hP.1) ?_
    refine E_ic (nI 1) dX7_closes_23 (by decide) ?_
    refine E_iadd dX7_closes_24 ?_
    refine E.top (nI_add p 1) ?_
    refine E_putI dX7_closes_25 f_X7_22 rfl (Nat.lt_of_lt_of_le (by decide) hN) rfl ?_
    refine E_ic (nI 1) dX7_closes_28 (by decide) ?_
    exact E_zret dX7_closes_29 rfl (by decide) (by first | exact ht c5 | exact hf c5)
  · refine E_aload_n dX7_closes_8 rfl ?_
    refine E_ic (nI 1) dX7_closes_9 (by decide) ?_
    refine E_aload_n dX7_closes_10 rfl ?_
    refine E_getI dX7_closes_11 f_X7_22 rfl (Nat.lt_of_lt_of_le (by decide) hN) rfl ?_
    refine E.top (hP.1) ?_
    refine E_callV (As := [_, _]) (ci := 6) (kc' := 0) (ks' := 0) (kc := 0) (ks := 0) dX7_closes_14 ok_X7_fails w_X7_55 i_X7_fails s_X7_fails rfl (by decide) rfl (Nat.lt_of_lt_of_le (by decide) hN) rfl rfl rfl (Nat.le_of_ble_eq_true rfl) (Nat.le_of_ble_eq_true rfl) (Nat.le_refl _) (x_failsR (k := 1) (q := p) hN ?_)
    exact E_zret dX7_closes_17 rfl (by decide) (by first | exact ht c5 | exact hf c5)
set_option maxRecDepth 100000 in
set_option maxHeartbeats 2000000 in
theorem x_times (hN : 152 ≤ n) (hR : RS R) (hc : okc t L c) (hL : L ≤ 260) (hC : CTx t L most il I R) (hil : il ≤ 1) (hp : p ≤ L) (hP : RPx p s f I) (hQ : ∀ I2 : IM, RFx I I2 → RPx (tmS il c p).2 s f I2 → Q (some (.int (nI (tmS il c p).1))) n I2 J R) : E g mX7_times (d + 1) 0 0 0 (ent 2 [.ref 20]) [] n I J R Q := by
  have hi2 : il = 1 ∨ il = 0 := by omega
  rcases hi2 with rfl | rfl
  · skip
    refine E_aload_n dX7_times_0 rfl ?_
    refine E_getI dX7_times_1 f_X7_34 rfl (Nat.lt_of_lt_of_le (by decide) hN) rfl ?_
    refine E.top (hC.2.2.1) ?_
    refine E_zN_eq (a := 1) (tgt := 31) dX7_times_4 (by decide) (by decide) (fun c4 => absurd c4 (by omega)) (fun c4 => ?_)
    refine E_aload_n dX7_times_7 rfl ?_
    refine E_callV (As := []) (ci := 6) (kc' := 0) (ks' := 0) (kc := 0) (ks := 0) dX7_times_8 ok_X7_next w_X7_51 i_X7_next s_X7_next rfl (by decide) rfl (Nat.lt_of_lt_of_le (by decide) hN) rfl rfl rfl (Nat.le_of_ble_eq_true rfl) (Nat.le_of_ble_eq_true rfl) (Nat.le_refl _) (x_next hN hR hc hL hC (p := p) (by omega) (hP.1) ?_)
    refine E_bp (nI 42) dX7_times_11 (by decide) ?_
    refine E_icmp_eq (tgt := 18) dX7_times_13 (by decide) (fun c13 => ?_) (fun c13 => ?_)
    · refine E_aload_n dX7_times_18 rfl ?_
      refine E_dup dX7_times_19 rfl ?_
      refine E_getI dX7_times_20 f_X7_22 rfl (Nat.lt_of_lt_of_le (by decide) hN) rfl ?_
      refine E.top (hP.1) ?_
      refine E_ic (nI 1) dX7_times_23 (by decide) ?_
      refine E_iadd dX7_times_24 ?_
      refine E.top (nI_add p 1) ?_
      refine E_putI dX7_times_25 f_X7_22 rfl (Nat.lt_of_lt_of_le (by decide) hN) rfl ?_
      refine E_goto (tgt := 43) dX7_times_28 (by decide) ?_
      refine E_aload_n dX7_times_43 rfl ?_
      refine E_callV (As := []) (ci := 6) (kc' := 0) (ks' := 0) (kc := 0) (ks := 0) dX7_times_44 ok_X7_next w_X7_51 i_X7_next s_X7_next rfl (by decide) rfl (Nat.lt_of_lt_of_le (by decide) hN) rfl rfl rfl (Nat.le_of_ble_eq_true rfl) (Nat.le_of_ble_eq_true rfl) (Nat.le_refl _) (x_next hN hR hc hL (hC.keep (RFx.up I _ (Or.inl rfl))) (p := p + 1) (by omega) (up2_s _ _ _ _) ?_)
      refine E_istore_n dX7_times_47 (Nat.le_of_ble_eq_true rfl) ?_
      refine E_iload_n dX7_times_48 rfl ?_
      refine E_bp (nI 50) dX7_times_49 (by decide) ?_
      refine E_icmp_lt (tgt := 60) dX7_times_51 (by decide) (fun c51 => ?_) (fun c51 => ?_)
      · refine E_ic (nI 0) dX7_times_60 (by decide) ?_
        exact E_iret dX7_times_61 rfl (by rw [show tmS 1 c p = (0, p + 1) from (if_pos rfl).trans ((if_pos ((ch_eq (by decide)).mp c13)).trans (if_neg (fun z => by first | (have := (ch_lt (k := 50) (by decide)).mp c51; omega) | (have := (ch_gt (k := 57) (by decide)).mp (Int32.not_le.mp c57); omega))))] at hQ; exact hQ _ (RFx.up I _ (Or.inl rfl)) hP.at)
      · refine E_iload_n dX7_times_54 rfl ?_
        refine E_bp (nI 57) dX7_times_55 (by decide) ?_
        refine E_icmp_le (tgt := 62) dX7_times_57 (by decide) (fun c57 => ?_) (fun c57 => ?_)
        · have z256 : c (p + 1) < 256 := by rcases Nat.lt_or_ge (c (p + 1)) 256 with z | z; exact z; exact absurd ((ch_lt (k := 50) (by decide)).mpr (Or.inr z)) c51
          have z50 : 50 ≤ c (p + 1) := by rcases Nat.lt_or_ge (c (p + 1)) 50 with z | z; exact absurd ((ch_lt (k := 50) (by decide)).mpr (Or.inl z)) c51; exact z
          have z57 : c (p + 1) ≤ 57 := by rcases Nat.lt_or_ge 57 (c (p + 1)) with z | z; exact absurd c57 (Int32.not_le.mpr ((ch_gt (k := 57) (by decide)).mpr ⟨z, z256⟩)); exact z
          refine E_aload_n dX7_times_62 rfl ?_
          refine E_dup dX7_times_63 rfl ?_
          refine E_getI dX7_times_64 f_X7_22 rfl (Nat.lt_of_lt_of_le (by decide) hN) rfl ?_
          refine E.top (up2_s _ _ _ _) ?_
          refine E_ic (nI 1) dX7_times_67 (by decide) ?_
          refine E_iadd dX7_times_68 ?_
          refine E.top (nI_add (p + 1) 1) ?_
          refine E_putI dX7_times_69 f_X7_22 rfl (Nat.lt_of_lt_of_le (by decide) hN) rfl ?_
          refine E_iload_n dX7_times_72 rfl ?_
          refine E_bp (nI 48) dX7_times_73 (by decide) ?_
          refine E_isub dX7_times_75 ?_
          refine E.top (show chI (c (p + 1)) - nI 48 = nI (c (p + 1) - 48) by rw [show chI (c (p + 1)) = nI (c (p + 1)) from if_pos (by omega), pk_sub (by omega)]) ?_
          exact E_iret dX7_times_76 rfl (by rw [show tmS 1 c p = (c (p + 1) - 48, p + 2) from (if_pos rfl).trans ((if_pos ((ch_eq (by decide)).mp c13)).trans (if_pos ⟨z50, z57⟩))] at hQ; exact hQ _ ((RFx.up I _ (Or.inl rfl)).trans (RFx.up _ _ (Or.inl rfl))) hP.at.at)
        · refine E_ic (nI 0) dX7_times_60 (by decide) ?_
          exact E_iret dX7_times_61 rfl (by rw [show tmS 1 c p = (0, p + 1) from (if_pos rfl).trans ((if_pos ((ch_eq (by decide)).mp c13)).trans (if_neg (fun z => by first | (have := (ch_lt (k := 50) (by decide)).mp c51; omega) | (have := (ch_gt (k := 57) (by decide)).mp (Int32.not_le.mp c57); omega))))] at hQ; exact hQ _ (RFx.up I _ (Or.inl rfl)) hP.at)
    · refine E_ic (nI 1) dX7_times_16 (by decide) ?_
      exact E_iret dX7_times_17 rfl (by rw [show tmS 1 c p = (1, p) from (if_pos rfl).trans (if_neg (fun z => c13 ((ch_eq (by decide)).mpr z)))] at hQ; exact hQ I (RFx.refl I) hP)
  · skip
    refine E_aload_n dX7_times_0 rfl ?_
    refine E_getI dX7_times_1 f_X7_34 rfl (Nat.lt_of_lt_of_le (by decide) hN) rfl ?_
    refine E.top (hC.2.2.1) ?_
    refine E_zN_eq (a := 0) (tgt := 31) dX7_times_4 (by decide) (by decide) (fun c4 => ?_) (fun c4 => absurd c4 (by omega))
    refine E_aload_n dX7_times_31 rfl ?_
    refine E_callV (As := []) (ci := 6) (kc' := 0) (ks' := 0) (kc := 0) (ks := 0) dX7_times_32 ok_X7_next w_X7_51 i_X7_next s_X7_next rfl (by decide) rfl (Nat.lt_of_lt_of_le (by decide) hN) rfl rfl rfl (Nat.le_of_ble_eq_true rfl) (Nat.le_of_ble_eq_true rfl) (Nat.le_refl _) (x_next hN hR hc hL hC (p := p) (by omega) (hP.1) ?_)
    refine E_callSN (As := [_]) (kc' := 0) (ks' := 0) (kc := 0) (ks := 0) dX7_times_35 ok_X11_isDigit w_X7_73 st_X11_isDigit rfl rfl rfl (Nat.le_of_ble_eq_true rfl) (Nat.le_of_ble_eq_true rfl) (Nat.le_refl _) (c_isDigit (fun d1 d2 => ?_) (fun d3 => ?_))
    · have y48 : 48 ≤ c p := by rcases Nat.lt_or_ge (c p) 48 with z | z; exact absurd d1 (Int32.not_le.mpr ((ch_lt (k := 48) (by decide)).mpr (Or.inl z))); exact z
      have y256 : c p < 256 := by rcases Nat.lt_or_ge (c p) 256 with z | z; exact z; exact absurd d1 (Int32.not_le.mpr ((ch_lt (k := 48) (by decide)).mpr (Or.inr z)))
      have y57 : c p ≤ 57 := by rcases Nat.lt_or_ge 57 (c p) with z | z; exact absurd d2 (Int32.not_le.mpr ((ch_gt (k := 57) (by decide)).mpr ⟨z, y256⟩)); exact z
      refine E_zN_ne (a := 1) (tgt := 43) dX7_times_38 (by decide) (by decide) (fun c38 => ?_) (fun c38 => absurd c38 (by omega))
      refine E_aload_n dX7_times_43 rfl ?_
      refine E_callV (As := []) (ci := 6) (kc' := 0) (ks' := 0) (kc := 0) (ks := 0) dX7_times_44 ok_X7_next w_X7_51 i_X7_next s_X7_next rfl (by decide) rfl (Nat.lt_of_lt_of_le (by decide) hN) rfl rfl rfl (Nat.le_of_ble_eq_true rfl) (Nat.le_of_ble_eq_true rfl) (Nat.le_refl _) (x_next hN hR hc hL hC (p := p) (by omega) (hP.1) ?_)
      refine E_istore_n dX7_times_47 (Nat.le_of_ble_eq_true rfl) ?_
      refine E_iload_n dX7_times_48 rfl ?_
      refine E_bp (nI 50) dX7_times_49 (by decide) ?_
      refine E_icmp_lt (tgt := 60) dX7_times_51 (by decide) (fun c51 => ?_) (fun c51 => ?_)
      · refine E_ic (nI 0) dX7_times_60 (by decide) ?_
        exact E_iret dX7_times_61 rfl (by rw [show tmS 0 c p = (0, p) from (if_neg (by decide)).trans ((if_pos ⟨y48, y57⟩).trans (if_neg (fun z => by have := (ch_lt (k := 50) (by decide)).mp c51; omega)))] at hQ; exact hQ I (RFx.refl I) hP)
      · refine E_iload_n dX7_times_54 rfl ?_
        refine E_bp (nI 57) dX7_times_55 (by decide) ?_
        refine E_icmp_le (tgt := 62) dX7_times_57 (by decide) (fun c57 => ?_) (fun c57 => by first | exact absurd c57 (Int32.not_lt.mp (fun z => by have := (ch_gt (k := 57) (by decide)).mp z; omega)) | exact absurd (Int32.not_lt.mp (fun z => by have := (ch_gt (k := 57) (by decide)).mp z; omega)) c57)
        refine E_aload_n dX7_times_62 rfl ?_
        refine E_dup dX7_times_63 rfl ?_
        refine E_getI dX7_times_64 f_X7_22 rfl (Nat.lt_of_lt_of_le (by decide) hN) rfl ?_
        refine E.top (hP.1) ?_
        refine E_ic (nI 1) dX7_times_67 (by decide) ?_
        refine E_iadd dX7_times_68 ?_
        refine E.top (nI_add p 1) ?_
        refine E_putI dX7_times_69 f_X7_22 rfl (Nat.lt_of_lt_of_le (by decide) hN) rfl ?_
        refine E_iload_n dX7_times_72 rfl ?_
        refine E_bp (nI 48) dX7_times_73 (by decide) ?_
        refine E_isub dX7_times_75 ?_
        refine E.top (show chI (c p) - nI 48 = nI (c p - 48) by rw [show chI (c p) = nI (c p) from if_pos (by omega), pk_sub (by omega)]) ?_
        exact E_iret dX7_times_76 rfl (by rw [show tmS 0 c p = (c p - 48, p + 1) from (if_neg (by decide)).trans ((if_pos ⟨y48, y57⟩).trans (if_pos (by rcases Nat.lt_or_ge (c p) 50 with z | z; exact absurd ((ch_lt (k := 50) (by decide)).mpr (Or.inl z)) c51; exact z)))] at hQ; exact hQ _ (RFx.up I _ (Or.inl rfl)) hP.at)
    · skip
      refine E_zN_ne (a := 0) (tgt := 43) dX7_times_38 (by decide) (by decide) (fun c38 => absurd c38 (by omega)) (fun c38 => ?_)
      refine E_ic (nI 1) dX7_times_41 (by decide) ?_
      exact E_iret dX7_times_42 rfl (by rw [show tmS 0 c p = (1, p) from (if_neg (by decide)).trans (if_neg (fun z => by rcases d3 with d3 | d3; (have := (ch_lt (k := 48) (by decide)).mp d3; omega); (have := (ch_gt (k := 57) (by decide)).mp d3; omega)))] at hQ; exact hQ I (RFx.refl I) hP)
set_option maxRecDepth 100000 in
set_option maxHeartbeats 2000000 in
theorem x_putR {x : Nat} (hN : 152 ≤ n) (hR : RS R) (hx : x < 2 ^ 31) (hs : s ≤ 96) (hP : RPx p s f I) (hQ : ∀ I2 : IM, RFx I I2 → RPx (p + 1) (s + 1) (up1 f s x) I2 → Q (some (.int 1)) n I2 J R) : E g mX7_put d 0 0 0 (ent 2 [.ref 20, .int (nI x)]) [] n I J R Q := by
  refine E_iload_n dX7_put_0 rfl ?_
  refine E_zN_ge (a := x) (tgt := 6) dX7_put_1 (by omega) (by decide) (fun c1 => ?_) (fun c1 => c1.elim)
  refine E_aload_n dX7_put_6 rfl ?_
  refine E_getI dX7_put_7 f_X7_25 rfl (Nat.lt_of_lt_of_le (by decide) hN) rfl ?_
  refine E.top (hP.2.1) ?_
  refine E_aload_n dX7_put_10 rfl ?_
  refine E_getR dX7_put_11 f_X7_9 rfl (Nat.lt_of_lt_of_le (by decide) hN) rfl (hR _ _ _ rfl) ?_
  refine E_alen dX7_put_14 rfl (Nat.lt_of_lt_of_le (by decide) hN) (by decide) (by decide) ?_
  refine E.top (show _ = nI 96 from rfl) ?_
  refine E_cN_ge (a := s) (b := 96) (tgt := 28) dX7_put_15 (by omega) (by decide) (by decide) (fun c15 => ?_) (fun c15 => ?_)
  · refine E_aload_n dX7_put_28 rfl ?_
    refine E_dup dX7_put_29 rfl ?_
    refine E_getI dX7_put_30 f_X7_25 rfl (Nat.lt_of_lt_of_le (by decide) hN) rfl ?_
    refine E.top (by first | exact hP.2.1 | exact (congrFun (up2_o _ 21 _ _ 20 (by decide)) 4).trans hP.2.1) ?_
    refine E_ic (nI 1) dX7_put_33 (by decide) ?_
    refine E_iadd dX7_put_34 ?_
    refine E.top (nI_add s 1) ?_
    refine E_putI dX7_put_35 f_X7_25 rfl (Nat.lt_of_lt_of_le (by decide) hN) rfl ?_
    refine E_aload_n dX7_put_38 rfl ?_
    refine E_dup dX7_put_39 rfl ?_
    refine E_getI dX7_put_40 f_X7_22 rfl (Nat.lt_of_lt_of_le (by decide) hN) rfl ?_
    refine E.top (by first | exact (up2_k _ _ (by decide)).trans hP.1 | exact (up2_k _ _ (by decide)).trans ((congrFun (up2_o _ 21 _ _ 20 (by decide)) 3).trans hP.1)) ?_
    refine E_ic (nI 1) dX7_put_43 (by decide) ?_
    refine E_iadd dX7_put_44 ?_
    refine E.top (nI_add p 1) ?_
    refine E_putI dX7_put_45 f_X7_22 rfl (Nat.lt_of_lt_of_le (by decide) hN) rfl ?_
    refine E_ic (nI 1) dX7_put_48 (by decide) ?_
    exact E_zret dX7_put_49 rfl (by decide) (by first
        | exact hQ _ ((RFx.up1 I _ _).trans ((RFx.up _ _ (Or.inr (Or.inl rfl))).trans (RFx.up _ _ (Or.inl rfl)))) ⟨up2_s _ _ _ _, (up2_k _ _ (by decide)).trans (up2_s _ _ _ _), fun i h1 h2 => by
            rw [up2_o _ 20 _ _ 21 (by decide), up2_o _ 20 _ _ 21 (by decide)]
            by_cases e : i = s
            · subst e
              rw [show up1 f i x i = x from if_pos rfl]
              exact up2_s _ _ _ _
            · rw [show up1 f s x i = f i from if_neg e, up2_k _ _ e]
              exact hP.2.2 i (by omega) h2⟩
        | exact hQ _ ((RFx.up I _ (Or.inr (Or.inl rfl))).trans (RFx.up _ _ (Or.inl rfl))) ⟨up2_s _ _ _ _, (up2_k _ _ (by decide)).trans (up2_s _ _ _ _), fun i h1 h2 => by
            rw [up2_o _ 20 _ _ 21 (by decide), up2_o _ 20 _ _ 21 (by decide), show up1 f s x i = f i from if_neg (by omega)]
            exact hP.2.2 i (by omega) h2⟩)
  · refine E_aload_n dX7_put_18 rfl ?_
    refine E_getR dX7_put_19 f_X7_9 rfl (Nat.lt_of_lt_of_le (by decide) hN) rfl (hR _ _ _ rfl) ?_
    refine E_aload_n dX7_put_22 rfl ?_
    refine E_getI dX7_put_23 f_X7_25 rfl (Nat.lt_of_lt_of_le (by decide) hN) rfl ?_
    refine E.top (hP.2.1) ?_
    refine E_iload_n dX7_put_26 rfl ?_
    refine E_iastN dX7_put_27 rfl (Nat.lt_of_lt_of_le (by decide) hN) (by omega) ?_
    refine E_aload_n dX7_put_28 rfl ?_
    refine E_dup dX7_put_29 rfl ?_
    refine E_getI dX7_put_30 f_X7_25 rfl (Nat.lt_of_lt_of_le (by decide) hN) rfl ?_
    refine E.top (by first | exact hP.2.1 | exact (congrFun (up2_o _ 21 _ _ 20 (by decide)) 4).trans hP.2.1) ?_
    refine E_ic (nI 1) dX7_put_33 (by decide) ?_
    refine E_iadd dX7_put_34 ?_
    refine E.top (nI_add s 1) ?_
    refine E_putI dX7_put_35 f_X7_25 rfl (Nat.lt_of_lt_of_le (by decide) hN) rfl ?_
    refine E_aload_n dX7_put_38 rfl ?_
    refine E_dup dX7_put_39 rfl ?_
    refine E_getI dX7_put_40 f_X7_22 rfl (Nat.lt_of_lt_of_le (by decide) hN) rfl ?_
    refine E.top (by first | exact (up2_k _ _ (by decide)).trans hP.1 | exact (up2_k _ _ (by decide)).trans ((congrFun (up2_o _ 21 _ _ 20 (by decide)) 3).trans hP.1)) ?_
    refine E_ic (nI 1) dX7_put_43 (by decide) ?_
    refine E_iadd dX7_put_44 ?_
    refine E.top (nI_add p 1) ?_
    refine E_putI dX7_put_45 f_X7_22 rfl (Nat.lt_of_lt_of_le (by decide) hN) rfl ?_
    refine E_ic (nI 1) dX7_put_48 (by decide) ?_
    exact E_zret dX7_put_49 rfl (by decide) (by first
        | exact hQ _ ((RFx.up1 I _ _).trans ((RFx.up _ _ (Or.inr (Or.inl rfl))).trans (RFx.up _ _ (Or.inl rfl)))) ⟨up2_s _ _ _ _, (up2_k _ _ (by decide)).trans (up2_s _ _ _ _), fun i h1 h2 => by
            rw [up2_o _ 20 _ _ 21 (by decide), up2_o _ 20 _ _ 21 (by decide)]
            by_cases e : i = s
            · subst e
              rw [show up1 f i x i = x from if_pos rfl]
              exact up2_s _ _ _ _
            · rw [show up1 f s x i = f i from if_neg e, up2_k _ _ e]
              exact hP.2.2 i (by omega) h2⟩
        | exact hQ _ ((RFx.up I _ (Or.inr (Or.inl rfl))).trans (RFx.up _ _ (Or.inl rfl))) ⟨up2_s _ _ _ _, (up2_k _ _ (by decide)).trans (up2_s _ _ _ _), fun i h1 h2 => by
            rw [up2_o _ 20 _ _ 21 (by decide), up2_o _ 20 _ _ 21 (by decide), show up1 f s x i = f i from if_neg (by omega)]
            exact hP.2.2 i (by omega) h2⟩)
set_option maxRecDepth 100000 in
set_option maxHeartbeats 2000000 in
theorem x_putN (hN : 152 ≤ n) (hQ : Q (some (.int 0)) n I J R) : E g mX7_put d 0 0 0 (ent 2 [.ref 20, .int (-1)]) [] n I J R Q := by
  refine E_iload_n dX7_put_0 rfl ?_
  refine E_if_ge (tgt := 6) dX7_put_1 (by decide) (fun c1 => by first | exact absurd c1 (by decide) | exact absurd (by decide) c1) (fun c1 => ?_)
  refine E_ic (nI 0) dX7_put_4 (by decide) ?_
  exact E_zret dX7_put_5 rfl (by decide) (hQ)
theorem pnL {p : Nat} {c : Nat → Nat} (h1 : 48 ≤ c p ∧ c p ≤ 57) (h2 : 48 ≤ c (p + 1) ∧ c (p + 1) ≤ 57) (h3 : 97 ≤ c (p + 2) ∧ c (p + 2) ≤ 112) : pnS 1 c p = .inr ((10 * (c p - 48) + (c (p + 1) - 48)) * 16 + (c (p + 2) - 97), p + 3) := (if_pos rfl).trans ((if_pos h1).trans ((if_pos h2).trans (if_pos h3)))
theorem pnL2 {p : Nat} {c : Nat → Nat} (h1 : 48 ≤ c p ∧ c p ≤ 57) (h2 : 48 ≤ c (p + 1) ∧ c (p + 1) ≤ 57) (h3 : ¬ (97 ≤ c (p + 2) ∧ c (p + 2) ≤ 112)) : pnS 1 c p = .inl (p + 2) := (if_pos rfl).trans ((if_pos h1).trans ((if_pos h2).trans (if_neg h3)))
theorem pnL1 {p : Nat} {c : Nat → Nat} (h1 : 48 ≤ c p ∧ c p ≤ 57) (h2 : ¬ (48 ≤ c (p + 1) ∧ c (p + 1) ≤ 57)) : pnS 1 c p = .inl (p + 1) := (if_pos rfl).trans ((if_pos h1).trans (if_neg h2))
theorem pnL0 {p : Nat} {c : Nat → Nat} (h1 : ¬ (48 ≤ c p ∧ c p ≤ 57)) : pnS 1 c p = .inl p := (if_pos rfl).trans (if_neg h1)
/-- a letter less 97 -/
theorem ch97 (c : Nat) (hc : c < 256 ∨ c = 1000) : (chI c - nI 97 < 0 ↔ ¬ (97 ≤ c ∧ c < 256)) ∧ (¬ chI c - nI 97 < 0 → (nI 16 ≤ chI c - nI 97 ↔ 113 ≤ c)) := by
  rcases hc with h | h
  · have key : ∀ c, c < 256 → (chI c - nI 97 < 0 ↔ ¬ (97 ≤ c ∧ c < 256)) ∧ (¬ chI c - nI 97 < 0 → (nI 16 ≤ chI c - nI 97 ↔ 113 ≤ c)) := by decide +kernel
    exact key c h
  · subst h
    decide
set_option maxRecDepth 100000 in
set_option maxHeartbeats 2000000 in
theorem x_plain (hN : 152 ≤ n) (hR : RS R) (hc : okc t L c) (hL : L ≤ 260) (hC : CTx t L most il I R) (hil : il ≤ 1) (hp : p ≤ L) (hs : s ≤ 96) (hP : RPx p s f I) (hQ0 : ∀ q, pnS il c p = .inl q → ∀ I2 : IM, RFx I I2 → RPx q s f I2 → Q (some (.int 0)) n I2 J R) (hQ1 : ∀ r : Nat × Nat, pnS il c p = .inr r → ∀ I2 : IM, RFx I I2 → RPx r.2 (s + 1) (up1 f s r.1) I2 → Q (some (.int 1)) n I2 J R) : E g mX7_plain (d + 5) 0 0 0 (ent 3 [.ref 20]) [] n I J R Q := by
  have hi2 : il = 1 ∨ il = 0 := by omega
  rcases hi2 with rfl | rfl
  · skip
    have H3 : (48 ≤ c p ∧ c p ≤ 57) → (48 ≤ c (p + 1) ∧ c (p + 1) ≤ 57) → E g mX7_plain (d + 5) 0 0 25 [.ref 20, .int (nI (10 * (c p - 48) + (c (p + 1) - 48))), .int (nI 2)] [] n (up2 (up2 I 20 3 (nI (p + 1))) 20 3 (nI (p + 1 + 1))) J R Q := by
      intro y1 y2
      have hcc : c (p + 2) < 256 ∨ c (p + 2) = 1000 := by rcases hc.at (p + 2) with z | z <;> omega
      refine E_iload_n dX7_plain_25 rfl ?_
      refine E_ic (nI 2) dX7_plain_26 (by decide) ?_
      refine E_cN_ge (a := 2) (b := 2) (tgt := 71) dX7_plain_27 (by decide) (by decide) (by decide) (fun c27 => ?_) (fun c27 => absurd c27 (by omega))
      refine E_aload_n dX7_plain_71 rfl ?_
      refine E_callV (As := []) (ci := 6) (kc' := 0) (ks' := 0) (kc := 0) (ks := 0) dX7_plain_72 ok_X7_next w_X7_51 i_X7_next s_X7_next rfl (by decide) rfl (Nat.lt_of_lt_of_le (by decide) hN) rfl rfl rfl (Nat.le_of_ble_eq_true rfl) (Nat.le_of_ble_eq_true rfl) (Nat.le_refl _) (x_next hN hR hc hL (hC.keep ((RFx.up I (nI (p + 1)) (Or.inl rfl)).trans (RFx.up (up2 I 20 3 (nI (p + 1))) (nI (p + 1 + 1)) (Or.inl rfl)))) (p := p + 2) (by omega) (up2_s _ _ _ _) ?_)
      refine E_bp (nI 97) dX7_plain_75 (by decide) ?_
      refine E_isub dX7_plain_77 ?_
      refine E_istore_n dX7_plain_78 (Nat.le_of_ble_eq_true rfl) ?_
      refine E_iload_n dX7_plain_79 rfl ?_
      refine E_if_lt (tgt := 106) dX7_plain_80 (by decide) (fun c80 => ?_) (fun c80 => ?_)
      · have lt97 := (ch97 _ hcc).1.mp c80
        refine E_ic (nI 0) dX7_plain_106 (by decide) ?_
        exact E_zret dX7_plain_107 rfl (by decide) (by first | exact hQ1 ((10 * (c p - 48) + (c (p + 1) - 48)) * 16 + (c (p + 2) - 97), p + 3) (pnL y1 y2 ⟨z97, z112⟩) I2 (((RFx.up I (nI (p + 1)) (Or.inl rfl)).trans (RFx.up (up2 I 20 3 (nI (p + 1))) (nI (p + 1 + 1)) (Or.inl rfl))).trans f2) p2 | exact hQ0 (p + 2) (pnL2 y1 y2 (fun z => by first | (have := lt97; omega) | (have := ge16; omega))) _ ((RFx.up I (nI (p + 1)) (Or.inl rfl)).trans (RFx.up (up2 I 20 3 (nI (p + 1))) (nI (p + 1 + 1)) (Or.inl rfl))) hP.at.at)
      · refine E_iload_n dX7_plain_83 rfl ?_
        refine E_bp (nI 16) dX7_plain_84 (by decide) ?_
        refine E_icmp_ge (tgt := 106) dX7_plain_86 (by decide) (fun c86 => ?_) (fun c86 => ?_)
        · have ge16 := ((ch97 _ hcc).2 (Int32.not_lt.mpr (Int32.not_lt.mp c80))).mp c86
          refine E_ic (nI 0) dX7_plain_106 (by decide) ?_
          exact E_zret dX7_plain_107 rfl (by decide) (by first | exact hQ1 ((10 * (c p - 48) + (c (p + 1) - 48)) * 16 + (c (p + 2) - 97), p + 3) (pnL y1 y2 ⟨z97, z112⟩) I2 (((RFx.up I (nI (p + 1)) (Or.inl rfl)).trans (RFx.up (up2 I 20 3 (nI (p + 1))) (nI (p + 1 + 1)) (Or.inl rfl))).trans f2) p2 | exact hQ0 (p + 2) (pnL2 y1 y2 (fun z => by first | (have := lt97; omega) | (have := ge16; omega))) _ ((RFx.up I (nI (p + 1)) (Or.inl rfl)).trans (RFx.up (up2 I 20 3 (nI (p + 1))) (nI (p + 1 + 1)) (Or.inl rfl))) hP.at.at)
        · have z97 : 97 ≤ c (p + 2) := by rcases Nat.lt_or_ge (c (p + 2)) 97 with z | z; exact absurd ((ch97 _ hcc).1.mpr (by omega)) c80; exact z
          have z256 : c (p + 2) < 256 := by rcases Nat.lt_or_ge (c (p + 2)) 256 with z | z; exact z; exact absurd ((ch97 _ hcc).1.mpr (by omega)) c80
          have z112 : c (p + 2) ≤ 112 := by rcases Nat.lt_or_ge 112 (c (p + 2)) with z | z; exact absurd (((ch97 _ hcc).2 c80).mpr z) c86; exact z
          refine E_aload_n dX7_plain_89 rfl ?_
          refine E_iload_n dX7_plain_90 rfl ?_
          refine E_bp (nI 16) dX7_plain_91 (by decide) ?_
          refine E_imul dX7_plain_93 ?_
          refine E.top (pk_mul (10 * (c p - 48) + (c (p + 1) - 48)) 16) ?_
          refine E_iload_n dX7_plain_94 rfl ?_
          refine E_iadd dX7_plain_95 ?_
          refine E.top (show nI ((10 * (c p - 48) + (c (p + 1) - 48)) * 16) + (chI (c (p + 2)) - nI 97) = nI ((10 * (c p - 48) + (c (p + 1) - 48)) * 16 + (c (p + 2) - 97)) by rw [show chI (c (p + 2)) = nI (c (p + 2)) from if_pos z256, pk_sub z97, nI_add]) ?_
          refine E_callV (As := [_]) (ci := 6) (kc' := 0) (ks' := 0) (kc := 0) (ks := 0) dX7_plain_96 ok_X7_put w_X7_82 i_X7_put s_X7_put rfl (by decide) rfl (Nat.lt_of_lt_of_le (by decide) hN) rfl rfl rfl (Nat.le_of_ble_eq_true rfl) (Nat.le_of_ble_eq_true rfl) (Nat.le_refl _) (x_putR (x := (10 * (c p - 48) + (c (p + 1) - 48)) * 16 + (c (p + 2) - 97)) (p := p + 2) (s := s) (f := f) hN hR (by omega) (by omega) hP.at.at (fun I2 f2 p2 => ?_))
          · skip
            refine E_zN_eq (a := 1) (tgt := 106) dX7_plain_99 (by decide) (by decide) (fun c99 => absurd c99 (by omega)) (fun c99 => ?_)
            refine E_ic (nI 1) dX7_plain_102 (by decide) ?_
            refine E_goto (tgt := 107) dX7_plain_103 (by decide) ?_
            exact E_zret dX7_plain_107 rfl (by decide) (by first | exact hQ1 ((10 * (c p - 48) + (c (p + 1) - 48)) * 16 + (c (p + 2) - 97), p + 3) (pnL y1 y2 ⟨z97, z112⟩) I2 (((RFx.up I (nI (p + 1)) (Or.inl rfl)).trans (RFx.up (up2 I 20 3 (nI (p + 1))) (nI (p + 1 + 1)) (Or.inl rfl))).trans f2) p2 | exact hQ0 (p + 2) (pnL2 y1 y2 (fun z => by first | (have := lt97; omega) | (have := ge16; omega))) _ ((RFx.up I (nI (p + 1)) (Or.inl rfl)).trans (RFx.up (up2 I 20 3 (nI (p + 1))) (nI (p + 1 + 1)) (Or.inl rfl))) hP.at.at)
    have H2 : (48 ≤ c p ∧ c p ≤ 57) → E g mX7_plain (d + 5) 0 0 25 [.ref 20, .int (nI (c p - 48)), .int (nI 1)] [] n (up2 I 20 3 (nI (p + 1))) J R Q := by
      intro y1
      refine E_iload_n dX7_plain_25 rfl ?_
      refine E_ic (nI 2) dX7_plain_26 (by decide) ?_
      refine E_cN_ge (a := 1) (b := 2) (tgt := 71) dX7_plain_27 (by decide) (by decide) (by decide) (fun c27 => absurd c27 (by omega)) (fun c27 => ?_)
      refine E_aload_n dX7_plain_30 rfl ?_
      refine E_callV (As := []) (ci := 6) (kc' := 0) (ks' := 0) (kc := 0) (ks := 0) dX7_plain_31 ok_X7_next w_X7_51 i_X7_next s_X7_next rfl (by decide) rfl (Nat.lt_of_lt_of_le (by decide) hN) rfl rfl rfl (Nat.le_of_ble_eq_true rfl) (Nat.le_of_ble_eq_true rfl) (Nat.le_refl _) (x_next hN hR hc hL (hC.keep (RFx.up I (nI (p + 1)) (Or.inl rfl))) (p := p + 1) (by omega) (up2_s _ _ _ _) ?_)
      refine E_callSN (As := [_]) (kc' := 0) (ks' := 0) (kc := 0) (ks := 0) dX7_plain_34 ok_X11_isDigit w_X7_73 st_X11_isDigit rfl rfl rfl (Nat.le_of_ble_eq_true rfl) (Nat.le_of_ble_eq_true rfl) (Nat.le_refl _) (c_isDigit (fun d1 d2 => ?_) (fun d3 => ?_))
      · have y48 : 48 ≤ c (p + 1) := by rcases Nat.lt_or_ge (c (p + 1)) 48 with z | z; exact absurd d1 (Int32.not_le.mpr ((ch_lt (k := 48) (by decide)).mpr (Or.inl z))); exact z
        have y256 : c (p + 1) < 256 := by rcases Nat.lt_or_ge (c (p + 1)) 256 with z | z; exact z; exact absurd d1 (Int32.not_le.mpr ((ch_lt (k := 48) (by decide)).mpr (Or.inr z)))
        have y57 : c (p + 1) ≤ 57 := by rcases Nat.lt_or_ge 57 (c (p + 1)) with z | z; exact absurd d2 (Int32.not_le.mpr ((ch_gt (k := 57) (by decide)).mpr ⟨z, y256⟩)); exact z
        refine E_zN_ne (a := 1) (tgt := 42) dX7_plain_37 (by decide) (by decide) (fun c37 => ?_) (fun c37 => absurd c37 (by omega))
        refine E_iload_n dX7_plain_42 rfl ?_
        refine E_bp (nI 10) dX7_plain_43 (by decide) ?_
        refine E_imul dX7_plain_45 ?_
        refine E.top (pk_mul (c p - 48) 10) ?_
        refine E.top (congrArg nI (Nat.mul_comm (c p - 48) 10)) ?_
        refine E_aload_n dX7_plain_46 rfl ?_
        refine E_callV (As := []) (ci := 6) (kc' := 0) (ks' := 0) (kc := 0) (ks := 0) dX7_plain_47 ok_X7_next w_X7_51 i_X7_next s_X7_next rfl (by decide) rfl (Nat.lt_of_lt_of_le (by decide) hN) rfl rfl rfl (Nat.le_of_ble_eq_true rfl) (Nat.le_of_ble_eq_true rfl) (Nat.le_refl _) (x_next hN hR hc hL (hC.keep (RFx.up I (nI (p + 1)) (Or.inl rfl))) (p := p + 1) (by omega) (up2_s _ _ _ _) ?_)
        refine E_iadd dX7_plain_50 ?_
        refine E_bp (nI 48) dX7_plain_51 (by decide) ?_
        refine E_isub dX7_plain_53 ?_
        refine E.top (show nI (10 * (c p - 48)) + chI (c (p + 1)) - nI 48 = nI (10 * (c p - 48) + (c (p + 1) - 48)) by rw [show chI (c (p + 1)) = nI (c (p + 1)) from if_pos (by omega), nI_add, pk_sub (by omega)]; congr 1; omega) ?_
        refine E_istore_n dX7_plain_54 (Nat.le_of_ble_eq_true rfl) ?_
        refine E_aload_n dX7_plain_55 rfl ?_
        refine E_dup dX7_plain_56 rfl ?_
        refine E_getI dX7_plain_57 f_X7_22 rfl (Nat.lt_of_lt_of_le (by decide) hN) rfl ?_
        refine E.top (up2_s _ _ _ _) ?_
        refine E_ic (nI 1) dX7_plain_60 (by decide) ?_
        refine E_iadd dX7_plain_61 ?_
        refine E.top (nI_add (p + 1) 1) ?_
        refine E_putI dX7_plain_62 f_X7_22 rfl (Nat.lt_of_lt_of_le (by decide) hN) rfl ?_
        refine E_incN dX7_plain_65 rfl ?_
        refine E_goto (tgt := 25) dX7_plain_68 (by decide) ?_
        exact H3 y1 ⟨y48, y57⟩
      · have yn : ¬ (48 ≤ c (p + 1) ∧ c (p + 1) ≤ 57) := fun z => by rcases d3 with d3 | d3; (have := (ch_lt (k := 48) (by decide)).mp d3; omega); (have := (ch_gt (k := 57) (by decide)).mp d3; omega)
        refine E_zN_ne (a := 0) (tgt := 42) dX7_plain_37 (by decide) (by decide) (fun c37 => absurd c37 (by omega)) (fun c37 => ?_)
        refine E_ic (nI 0) dX7_plain_40 (by decide) ?_
        exact E_zret dX7_plain_41 rfl (by decide) (hQ0 (p + 1) (pnL1 y1 yn) _ (RFx.up I (nI (p + 1)) (Or.inl rfl)) hP.at)
    refine E_aload_n dX7_plain_0 rfl ?_
    refine E_getI dX7_plain_1 f_X7_34 rfl (Nat.lt_of_lt_of_le (by decide) hN) rfl ?_
    refine E.top (hC.2.2.1) ?_
    refine E_zN_ne (a := 1) (tgt := 21) dX7_plain_4 (by decide) (by decide) (fun c4 => ?_) (fun c4 => absurd c4 (by omega))
    refine E_ic (nI 0) dX7_plain_21 (by decide) ?_
    refine E_istore_n dX7_plain_22 (Nat.le_of_ble_eq_true rfl) ?_
    refine E_ic (nI 0) dX7_plain_23 (by decide) ?_
    refine E_istore_n dX7_plain_24 (Nat.le_of_ble_eq_true rfl) ?_
    refine E_iload_n dX7_plain_25 rfl ?_
    refine E_ic (nI 2) dX7_plain_26 (by decide) ?_
    refine E_cN_ge (a := 0) (b := 2) (tgt := 71) dX7_plain_27 (by decide) (by decide) (by decide) (fun c27 => absurd c27 (by omega)) (fun c27 => ?_)
    refine E_aload_n dX7_plain_30 rfl ?_
    refine E_callV (As := []) (ci := 6) (kc' := 0) (ks' := 0) (kc := 0) (ks := 0) dX7_plain_31 ok_X7_next w_X7_51 i_X7_next s_X7_next rfl (by decide) rfl (Nat.lt_of_lt_of_le (by decide) hN) rfl rfl rfl (Nat.le_of_ble_eq_true rfl) (Nat.le_of_ble_eq_true rfl) (Nat.le_refl _) (x_next hN hR hc hL hC (p := p) (by omega) (hP.1) ?_)
    refine E_callSN (As := [_]) (kc' := 0) (ks' := 0) (kc := 0) (ks := 0) dX7_plain_34 ok_X11_isDigit w_X7_73 st_X11_isDigit rfl rfl rfl (Nat.le_of_ble_eq_true rfl) (Nat.le_of_ble_eq_true rfl) (Nat.le_refl _) (c_isDigit (fun d1 d2 => ?_) (fun d3 => ?_))
    · have y48 : 48 ≤ c p := by rcases Nat.lt_or_ge (c p) 48 with z | z; exact absurd d1 (Int32.not_le.mpr ((ch_lt (k := 48) (by decide)).mpr (Or.inl z))); exact z
      have y256 : c p < 256 := by rcases Nat.lt_or_ge (c p) 256 with z | z; exact z; exact absurd d1 (Int32.not_le.mpr ((ch_lt (k := 48) (by decide)).mpr (Or.inr z)))
      have y57 : c p ≤ 57 := by rcases Nat.lt_or_ge 57 (c p) with z | z; exact absurd d2 (Int32.not_le.mpr ((ch_gt (k := 57) (by decide)).mpr ⟨z, y256⟩)); exact z
      refine E_zN_ne (a := 1) (tgt := 42) dX7_plain_37 (by decide) (by decide) (fun c37 => ?_) (fun c37 => absurd c37 (by omega))
      refine E_iload_n dX7_plain_42 rfl ?_
      refine E_bp (nI 10) dX7_plain_43 (by decide) ?_
      refine E_imul dX7_plain_45 ?_
      refine E.top (pk_mul 0 10) ?_
      refine E.top (congrArg nI (Nat.zero_mul 10)) ?_
      refine E_aload_n dX7_plain_46 rfl ?_
      refine E_callV (As := []) (ci := 6) (kc' := 0) (ks' := 0) (kc := 0) (ks := 0) dX7_plain_47 ok_X7_next w_X7_51 i_X7_next s_X7_next rfl (by decide) rfl (Nat.lt_of_lt_of_le (by decide) hN) rfl rfl rfl (Nat.le_of_ble_eq_true rfl) (Nat.le_of_ble_eq_true rfl) (Nat.le_refl _) (x_next hN hR hc hL hC (p := p) (by omega) (hP.1) ?_)
      refine E_iadd dX7_plain_50 ?_
      refine E_bp (nI 48) dX7_plain_51 (by decide) ?_
      refine E_isub dX7_plain_53 ?_
      refine E.top (show nI 0 + chI (c p) - nI 48 = nI (c p - 48) by rw [show chI (c p) = nI (c p) from if_pos (by omega), nI_add, pk_sub (by omega), Nat.zero_add]) ?_
      refine E_istore_n dX7_plain_54 (Nat.le_of_ble_eq_true rfl) ?_
      refine E_aload_n dX7_plain_55 rfl ?_
      refine E_dup dX7_plain_56 rfl ?_
      refine E_getI dX7_plain_57 f_X7_22 rfl (Nat.lt_of_lt_of_le (by decide) hN) rfl ?_
      refine E.top (hP.1) ?_
      refine E_ic (nI 1) dX7_plain_60 (by decide) ?_
      refine E_iadd dX7_plain_61 ?_
      refine E.top (nI_add p 1) ?_
      refine E_putI dX7_plain_62 f_X7_22 rfl (Nat.lt_of_lt_of_le (by decide) hN) rfl ?_
      refine E_incN dX7_plain_65 rfl ?_
      refine E_goto (tgt := 25) dX7_plain_68 (by decide) ?_
      exact H2 ⟨y48, y57⟩
    · have yn : ¬ (48 ≤ c p ∧ c p ≤ 57) := fun z => by rcases d3 with d3 | d3; (have := (ch_lt (k := 48) (by decide)).mp d3; omega); (have := (ch_gt (k := 57) (by decide)).mp d3; omega)
      refine E_zN_ne (a := 0) (tgt := 42) dX7_plain_37 (by decide) (by decide) (fun c37 => absurd c37 (by omega)) (fun c37 => ?_)
      refine E_ic (nI 0) dX7_plain_40 (by decide) ?_
      exact E_zret dX7_plain_41 rfl (by decide) (hQ0 p (pnL0 yn) I (RFx.refl I) hP)
  · skip
    refine E_aload_n dX7_plain_0 rfl ?_
    refine E_getI dX7_plain_1 f_X7_34 rfl (Nat.lt_of_lt_of_le (by decide) hN) rfl ?_
    refine E.top (hC.2.2.1) ?_
    refine E_zN_ne (a := 0) (tgt := 21) dX7_plain_4 (by decide) (by decide) (fun c4 => absurd c4 (by omega)) (fun c4 => ?_)
    refine E_aload_n dX7_plain_7 rfl ?_
    refine E_ldcS (i := 4) dX7_plain_8 rfl ?_
    refine E_aload_n dX7_plain_10 rfl ?_
    refine E_callV (As := []) (ci := 6) (kc' := 0) (ks' := 0) (kc := 0) (ks := 0) dX7_plain_11 ok_X7_next w_X7_51 i_X7_next s_X7_next rfl (by decide) rfl (Nat.lt_of_lt_of_le (by decide) hN) rfl rfl rfl (Nat.le_of_ble_eq_true rfl) (Nat.le_of_ble_eq_true rfl) (Nat.le_refl _) (x_next hN hR hc hL hC (p := p) (by omega) (hP.1) ?_)
    refine E_callSN (As := [_, _]) (kc' := 0) (ks' := 0) (kc := 0) (ks := 0) dX7_plain_14 ok_X11_placeIn w_X7_78 st_X11_placeIn rfl rfl rfl (Nat.le_of_ble_eq_true rfl) (Nat.le_of_ble_eq_true rfl) (Nat.le_refl _) (c_placeIn (d := d) (i := 4) rfl ?_)
    refine E.top (pl_dl (c p)) ?_
    by_cases h6 : dlS (c p) < 6
    · rw [if_pos h6]
      refine E_callV (As := [_]) (ci := 6) (kc' := 0) (ks' := 0) (kc := 0) (ks := 0) dX7_plain_17 ok_X7_put w_X7_82 i_X7_put s_X7_put rfl (by decide) rfl (Nat.lt_of_lt_of_le (by decide) hN) rfl rfl rfl (Nat.le_of_ble_eq_true rfl) (Nat.le_of_ble_eq_true rfl) (Nat.le_refl _) (x_putR (p := p) (s := s) (f := f) hN hR (by omega) (by omega) hP (fun I2 f2 p2 => ?_))
      exact E_zret dX7_plain_20 rfl (by decide) (hQ1 (dlS (c p), p + 1) ((if_neg (by decide)).trans (if_pos h6)) I2 f2 p2)
    · rw [if_neg h6]
      refine E_callV (As := [_]) (ci := 6) (kc' := 0) (ks' := 0) (kc := 0) (ks := 0) dX7_plain_17 ok_X7_put w_X7_82 i_X7_put s_X7_put rfl (by decide) rfl (Nat.lt_of_lt_of_le (by decide) hN) rfl rfl rfl (Nat.le_of_ble_eq_true rfl) (Nat.le_of_ble_eq_true rfl) (Nat.le_refl _) (x_putN hN ?_)
      exact E_zret dX7_plain_20 rfl (by decide) (hQ0 p ((if_neg (by decide)).trans (if_neg h6)) I (RFx.refl I) hP)
end PRoundsX
