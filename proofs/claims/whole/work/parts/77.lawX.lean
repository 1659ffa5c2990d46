/-! ===== the law's text, as the class reads it ===== -/
def CLx (t : Nat → Nat) (L : Nat) (I : IM) (R : RM) : Prop := I 11 2 = nI L ∧ (∀ j, j < L → I 2 j = nI (t j)) ∧ R 11 1 = some 2
def FLx (I I' : IM) : Prop := (∀ x, x ≠ 11 → x ≠ 13 → I' x = I x) ∧ I' 11 2 = I 11 2
def PLx (q : TS) (I : IM) : Prop := I 11 3 = nI q.1 ∧ I 11 4 = nI q.2.1 ∧ ∀ i, i < q.2.1 → I 13 i = nI (whc (q.2.2 i).1 + 256 * (q.2.2 i).2)
theorem FLx.refl (I : IM) : FLx I I := ⟨fun _ _ _ => rfl, rfl⟩
theorem FLx.trans {I I' I2 : IM} (h : FLx I I') (h2 : FLx I' I2) : FLx I I2 := ⟨fun x a b => (h2.1 x a b).trans (h.1 x a b), h2.2.trans h.2⟩
theorem CLx.keep {t : Nat → Nat} {L : Nat} {I I' : IM} {R : RM} (h : CLx t L I R) (h2 : FLx I I') : CLx t L I' R := ⟨h2.2.trans h.1, fun j hj => (congrFun (h2.1 2 (by decide) (by decide)) j).trans (h.2.1 j hj), h.2.2⟩
theorem FLx.up (I : IM) {k : Nat} (v : Int32) (h : k = 3 ∨ k = 4 ∨ k = 5) : FLx I (up2 I 11 k v) := ⟨fun x a _ => up2_o I 11 k v x a, up2_k I v (by omega)⟩
theorem FLx.cd (I : IM) (k : Nat) (v : Int32) : FLx I (up2 I 13 k v) := ⟨fun x _ b => up2_o I 13 k v x b, congrFun (up2_o I 13 k v 11 (by decide)) 2⟩
theorem PLx.at {q : TS} {I : IM} (h : PLx q I) (p : Nat) : PLx (p, q.2) (up2 I 11 3 (nI p)) := ⟨up2_s _ _ _ _, (up2_k I _ (by decide)).trans h.2.1, fun i hi => (congrFun (up2_o I 11 3 _ 13 (by decide)) i).trans (h.2.2 i hi)⟩
/-- what a reading method owes -/
def OXL (I : IM) (J : JM) (R : RM) (n : Nat) (Q : PQ) : PR → Prop
  | .inl x => ∀ I' : IM, FLx I I' → I' 11 5 = x → Q (some (.int 0)) n I' J R
  | .inr r => ∀ I' : IM, FLx I I' → PLx r I' → Q (some (.int 1)) n I' J R
theorem OXL.from {I I1 : IM} {J : JM} {R : RM} {n : Nat} {Q : PQ} (h : FLx I I1) : ∀ {r : PR}, OXL I J R n Q r → OXL I1 J R n Q r
  | .inl _, q => fun I' a b => q I' (h.trans a) b
  | .inr _, q => fun I' a b => q I' (h.trans a) b
theorem OXL.l {I : IM} {J : JM} {R : RM} {n : Nat} {Q : PQ} {y : PR} {x : Int32} (h : OXL I J R n Q y) (e : y = .inl x) : ∀ I' : IM, FLx I I' → I' 11 5 = x → Q (some (.int 0)) n I' J R := by rw [e] at h; exact h
theorem OXL.r {I : IM} {J : JM} {R : RM} {n : Nat} {Q : PQ} {y : PR} {r : TS} (h : OXL I J R n Q y) (e : y = .inr r) : ∀ I' : IM, FLx I I' → PLx r I' → Q (some (.int 1)) n I' J R := by rw [e] at h; exact h
theorem wc_lt {k : Nat} : whc k < 256 := by
  match k with
  | 0 => exact (by decide)
  | 1 => exact (by decide)
  | 2 => exact (by decide)
  | 3 => exact (by decide)
  | 4 => exact (by decide)
  | 5 => exact (by decide)
  | 6 => exact (by decide)
  | 7 => exact (by decide)
  | 8 => exact (by decide)
  | 9 => exact (by decide)
  | 10 => exact (by decide)
  | 11 => exact (by decide)
  | 12 => exact (by decide)
  | m + 13 => exact (show (0 : Nat) < 256 by decide)
theorem wd_shl {v : Nat} (h : v < 1048576) : nI v <<< (nI 8 &&& 31) = nI (256 * v) := (pk_shlN _ 8 (by decide) (by omega)).trans (congrArg nI (by omega))
theorem wd_or {w v : Nat} (hw : w < 256) (h : v < 1048576) : nI w ||| nI (256 * v) = nI (w + 256 * v) := (nI_or (by omega) (by omega)).trans (congrArg nI (by rw [Nat.or_comm, Nat.add_comm]; exact (Nat.two_pow_add_eq_or_of_lt (i := 8) hw v).symm))
theorem pl_kn (c : Nat) : plc [107, 110, 122, 99, 117, 121, 115, 105, 119] 0 (chI c) = if knL c < 9 then nI (knL c) else -1 := by
  by_cases h : c < 256
  · have key : ∀ c, c < 256 → plc [107, 110, 122, 99, 117, 121, 115, 105, 119] 0 (chI c) = if knL c < 9 then nI (knL c) else -1 := by decide +kernel
    exact key c h
  · rw [show chI c = -1 from if_neg h, if_neg (fun z => h (kn_lt z))]
    decide
theorem pl_sg (c : Nat) : plc [43, 45, 42, 47, 37] 0 (chI c) = if sgL c = 0 then -1 else nI (sgL c - 2) := by
  by_cases h : c < 256
  · have key : ∀ c, c < 256 → plc [43, 45, 42, 47, 37] 0 (chI c) = if sgL c = 0 then -1 else nI (sgL c - 2) := by decide +kernel
    exact key c h
  · rw [show chI c = -1 from if_neg h, if_pos (Decidable.byContradiction (fun z => h (sg_lt z).1))]
    decide
theorem pl_rl (c : Nat) : plc [103, 102, 97, 100, 120] 0 (chI c) = if rlP c = 5 then -1 else nI (rlP c) := by
  by_cases h : c < 256
  · have key : ∀ c, c < 256 → plc [103, 102, 97, 100, 120] 0 (chI c) = if rlP c = 5 then -1 else nI (rlP c) := by decide +kernel
    exact key c h
  · rw [show chI c = -1 from if_neg h, if_pos (Decidable.byContradiction (fun z => h (rl_lt z)))]
    decide
theorem rl_le (x : Nat) : rlP x ≤ 5 := by
  unfold rlP
  split
  · decide
  split
  · decide
  split
  · decide
  split
  · decide
  split <;> decide
section PLawX
variable {g : GL} {d n : Nat} {I : IM} {J : JM} {R : RM} {Q : PQ} {t c : Nat → Nat} {L p : Nat} {q : TS}
set_option maxRecDepth 100000 in
set_option maxHeartbeats 2000000 in
theorem x_nextL (hN : 152 ≤ n) (hR : RS R) (hc : okc t L c) (hL : L ≤ 240) (hC : CLx t L I R) (hp : p < 1000) (h3 : I 11 3 = nI p) (hQ : Q (some (.int (chI (c p)))) n I J R) : E g mX4_next d 0 0 0 (ent 1 [.ref 11]) [] n I J R Q := by
  refine E_aload_n dX4_next_0 rfl ?_
  refine E_getI dX4_next_1 f_X4_29 rfl (Nat.lt_of_lt_of_le (by decide) hN) rfl ?_
  refine E.top (h3) ?_
  refine E_zN_lt (a := p) (tgt := 30) dX4_next_4 (by omega) (by decide) (fun cw4 => cw4.elim) (fun cw4 => ?_)
  refine E_aload_n dX4_next_7 rfl ?_
  refine E_getI dX4_next_8 f_X4_29 rfl (Nat.lt_of_lt_of_le (by decide) hN) rfl ?_
  refine E.top (h3) ?_
  refine E_aload_n dX4_next_11 rfl ?_
  refine E_getI dX4_next_12 f_X4_25 rfl (Nat.lt_of_lt_of_le (by decide) hN) rfl ?_
  refine E.top (hC.1) ?_
  refine E_cN_ge (a := p) (b := L) (tgt := 30) dX4_next_15 (by omega) (by omega) (by decide) (fun cw15 => ?_) (fun cw15 => ?_)
  · refine E_ic (-1) dX4_next_30 (by decide) ?_
    exact E_iret dX4_next_31 rfl (by first | (rw [hc.in cw15] at hQ; exact hQ) | (rw [hc.out cw15] at hQ; exact hQ))
  · refine E_aload_n dX4_next_18 rfl ?_
    refine E_getR dX4_next_19 f_X4_22 rfl (Nat.lt_of_lt_of_le (by decide) hN) rfl hC.2.2 ?_
    refine E_aload_n dX4_next_22 rfl ?_
    refine E_getI dX4_next_23 f_X4_29 rfl (Nat.lt_of_lt_of_le (by decide) hN) rfl ?_
    refine E.top (h3) ?_
    refine E_ialdN dX4_next_26 rfl (Nat.lt_of_lt_of_le (by decide) hN) (by omega) ?_
    refine E.top (hC.2.1 p cw15) ?_
    refine E_goto (tgt := 31) dX4_next_27 (by decide) ?_
    exact E_iret dX4_next_31 rfl (by first | (rw [hc.in cw15] at hQ; exact hQ) | (rw [hc.out cw15] at hQ; exact hQ))
set_option maxRecDepth 100000 in
set_option maxHeartbeats 2000000 in
theorem x_failsL {k : Nat} (hN : 152 ≤ n) (h3 : I 11 3 = nI p) (hQ : Q (some (.int 0)) n (up2 I 11 5 (flt k p)) J R) : E g mX4_fails d 0 0 0 (ent 2 [.ref 11, .int (nI k)]) [] n I J R Q := by
  refine E_aload_n dX4_fails_0 rfl ?_
  refine E_sp (-1000) dX4_fails_1 (by decide) ?_
  refine E_iload_n dX4_fails_4 rfl ?_
  refine E_imul dX4_fails_5 ?_
  refine E_aload_n dX4_fails_6 rfl ?_
  refine E_getI dX4_fails_7 f_X4_29 rfl (Nat.lt_of_lt_of_le (by decide) hN) rfl ?_
  refine E.top (h3) ?_
  refine E_isub dX4_fails_10 ?_
  refine E_putI dX4_fails_11 f_X4_35 rfl (Nat.lt_of_lt_of_le (by decide) hN) rfl ?_
  refine E_ic (nI 0) dX4_fails_14 (by decide) ?_
  exact E_zret dX4_fails_15 rfl (by decide) (hQ)
set_option maxRecDepth 100000 in
set_option maxHeartbeats 2000000 in
theorem x_passesL {z : Nat} (hN : 152 ≤ n) (hR : RS R) (hc : okc t L c) (hL : L ≤ 240) (hC : CLx t L I R) (hz : z < 256) (hq : q.1 ≤ L) (hP : PLx q I) (hQ : OXL I J R n Q (psL c z q)) : E g mX4_passes (d + 1) 0 0 0 (ent 2 [.ref 11, .int (nI z)]) [] n I J R Q := by
  refine E_aload_n dX4_passes_0 rfl ?_
  refine E_callV (As := []) (ci := 4) (kc' := 0) (ks' := 0) (kc := 0) (ks := 0) dX4_passes_1 ok_X4_next w_X4_51 i_X4_next s_X4_next rfl (by decide) rfl (Nat.lt_of_lt_of_le (by decide) hN) rfl rfl rfl (Nat.le_of_ble_eq_true rfl) (Nat.le_of_ble_eq_true rfl) (by omega) (x_nextL (d := 0) hN hR hc hL hC (p := q.1) (by omega) (hP.1) ?_)
  refine E_iload_n dX4_passes_4 rfl ?_
  refine E_icmp_eq (tgt := 14) dX4_passes_5 (by decide) (fun cw5 => ?_) (fun cw5 => ?_)
  · refine E_aload_n dX4_passes_14 rfl ?_
    refine E_dup dX4_passes_15 rfl ?_
    refine E_getI dX4_passes_16 f_X4_29 rfl (Nat.lt_of_lt_of_le (by decide) hN) rfl ?_
    refine E.top (hP.1) ?_
    refine E_ic (nI 1) dX4_passes_19 (by decide) ?_
    refine E_iadd dX4_passes_20 ?_
    refine E.top (nI_add (q.1) 1) ?_
    refine E_putI dX4_passes_21 f_X4_29 rfl (Nat.lt_of_lt_of_le (by decide) hN) rfl ?_
    refine E_ic (nI 1) dX4_passes_24 (by decide) ?_
    exact E_zret dX4_passes_25 rfl (by decide) ((hQ.r (if_pos ((ch_eq hz).mp cw5))) _ (FLx.up I _ (by decide)) (hP.at (q.1 + 1)))
  · refine E_aload_n dX4_passes_8 rfl ?_
    refine E_ic (nI 1) dX4_passes_9 (by decide) ?_
    refine E_callV (As := [_]) (ci := 4) (kc' := 0) (ks' := 0) (kc := 0) (ks := 0) dX4_passes_10 ok_X4_fails w_X4_59 i_X4_fails s_X4_fails rfl (by decide) rfl (Nat.lt_of_lt_of_le (by decide) hN) rfl rfl rfl (Nat.le_of_ble_eq_true rfl) (Nat.le_of_ble_eq_true rfl) (by omega) (x_failsL (d := 0) (k := 1) (p := q.1) hN (hP.1) ?_)
    exact E_zret dX4_passes_13 rfl (by decide) ((hQ.l (if_neg (fun z => cw5 ((ch_eq hz).mpr z)))) _ (FLx.up I _ (by decide)) (up2_s _ _ _ _))
set_option maxRecDepth 100000 in
set_option maxHeartbeats 2000000 in
theorem x_emitL {op v : Nat} (hN : 152 ≤ n) (hR : RS R) (hs : q.2.1 < 240) (hv : v < 1048576) (hP : PLx q I) (hQ : ∀ I2 : IM, FLx I I2 → PLx (q.1, q.2.1 + 1, cdU q.2.2 q.2.1 (op, v)) I2 → Q (some (.int (nI q.2.1))) n I2 J R) : E g mX4_emit d 0 0 0 (ent 4 [.ref 11, .int (nI (whc op)), .int (nI v)]) [] n I J R Q := by
  have hw := wc_lt (k := op)
  refine E_aload_n dX4_emit_0 rfl ?_
  refine E_getI dX4_emit_1 f_X4_32 rfl (Nat.lt_of_lt_of_le (by decide) hN) rfl ?_
  refine E.top (hP.2.1) ?_
  refine E_istore_n dX4_emit_4 (Nat.le_of_ble_eq_true rfl) ?_
  refine E_iload_n dX4_emit_5 rfl ?_
  refine E_zN_lt (a := q.2.1) (tgt := 41) dX4_emit_6 (by omega) (by decide) (fun cw6 => cw6.elim) (fun cw6 => ?_)
  refine E_iload_n dX4_emit_9 rfl ?_
  refine E_sp (nI 240) dX4_emit_10 (by decide) ?_
  refine E_cN_ge (a := q.2.1) (b := 240) (tgt := 41) dX4_emit_13 (by omega) (by decide) (by decide) (fun cw13 => absurd cw13 (by omega)) (fun cw13 => ?_)
  refine E_aload_n dX4_emit_16 rfl ?_
  refine E_getR dX4_emit_17 f_X4_12 rfl (Nat.lt_of_lt_of_le (by decide) hN) rfl (hR _ _ _ rfl) ?_
  refine E_getR dX4_emit_20 f_X4_18 rfl (Nat.lt_of_lt_of_le (by decide) hN) rfl (hR _ _ _ rfl) ?_
  refine E_iload_n dX4_emit_23 rfl ?_
  refine E_iload_n dX4_emit_24 rfl ?_
  refine E_iload_n dX4_emit_25 rfl ?_
  refine E_bp (nI 8) dX4_emit_26 (by decide) ?_
  refine E_ishl dX4_emit_28 ?_
  refine E.top (wd_shl hv) ?_
  refine E_ior dX4_emit_29 ?_
  refine E.top (wd_or hw hv) ?_
  refine E_iastN dX4_emit_30 rfl (Nat.lt_of_lt_of_le (by decide) hN) (by omega) ?_
  refine E_aload_n dX4_emit_31 rfl ?_
  refine E_dup dX4_emit_32 rfl ?_
  refine E_getI dX4_emit_33 f_X4_32 rfl (Nat.lt_of_lt_of_le (by decide) hN) rfl ?_
  refine E.top ((congrFun (up2_o _ 13 _ _ 11 (by decide)) 4).trans hP.2.1) ?_
  refine E_ic (nI 1) dX4_emit_36 (by decide) ?_
  refine E_iadd dX4_emit_37 ?_
  refine E.top (nI_add (q.2.1) 1) ?_
  refine E_putI dX4_emit_38 f_X4_32 rfl (Nat.lt_of_lt_of_le (by decide) hN) rfl ?_
  refine E_iload_n dX4_emit_41 rfl ?_
  exact E_iret dX4_emit_42 rfl (hQ _ ((FLx.cd I _ _).trans (FLx.up _ _ (by decide))) ⟨(up2_k _ _ (by decide)).trans ((congrFun (up2_o _ 13 _ _ 11 (by decide)) 3).trans hP.1), up2_s _ _ _ _, fun i hi => by
      rw [up2_o _ 11 _ _ 13 (by decide)]
      show up2 I 13 q.2.1 (nI (whc op + 256 * v)) 13 i = nI (whc (cdU q.2.2 q.2.1 (op, v) i).1 + 256 * (cdU q.2.2 q.2.1 (op, v) i).2)
      have hi : i < q.2.1 + 1 := hi
      by_cases e : i = q.2.1
      · rw [e, cdU_s, up2_s]
      · rw [cdU_n e, up2_k _ _ e]
        exact hP.2.2 i (by omega)⟩)
def lnI (w : Nat) : Int32 := if w = 0 then -1 else nI (w - 1)
set_option maxRecDepth 100000 in
set_option maxHeartbeats 2000000 in
theorem x_landL {w : Nat} (hN : 152 ≤ n) (hR : RS R) (hs : q.2.1 ≤ 240) (hw : w ≤ q.2.1) (hd : CDok q.2.2 q.2.1) (hP : PLx q I) (hQ : ∀ I2 : IM, FLx I I2 → PLx (q.1, q.2.1, ldL w q.2.1 q.2.2) I2 → Q none n I2 J R) : E g mX4_land d 0 0 0 (ent 2 [.ref 11, .int (lnI w)]) [] n I J R Q := by
  by_cases h0 : w = 0
  · subst h0
    show E g mX4_land d 0 0 0 (ent 2 [.ref 11, .int (-1)]) [] n I J R Q
    have hQ : ∀ I2 : IM, FLx I I2 → PLx q I2 → Q none n I2 J R := hQ
    refine E_iload_n dX4_land_0 rfl ?_
    refine E_if_lt (tgt := 41) dX4_land_1 (by decide) (fun cw1 => ?_) (fun cw1 => by first | exact absurd cw1 ((by decide)) | exact absurd ((by decide)) cw1)
    exact E_ret dX4_land_41 rfl (hQ I (FLx.refl I) hP)
  · rw [show lnI w = nI (w - 1) from if_neg h0]
    refine E_iload_n dX4_land_0 rfl ?_
    refine E_zN_lt (a := w - 1) (tgt := 41) dX4_land_1 (by omega) (by decide) (fun cw1 => cw1.elim) (fun cw1 => ?_)
    refine E_iload_n dX4_land_4 rfl ?_
    refine E_sp (nI 240) dX4_land_5 (by decide) ?_
    refine E_cN_ge (a := w - 1) (b := 240) (tgt := 41) dX4_land_8 (by omega) (by decide) (by decide) (fun cw8 => absurd cw8 (by omega)) (fun cw8 => ?_)
    refine E_aload_n dX4_land_11 rfl ?_
    refine E_getR dX4_land_12 f_X4_12 rfl (Nat.lt_of_lt_of_le (by decide) hN) rfl (hR _ _ _ rfl) ?_
    refine E_getR dX4_land_15 f_X4_18 rfl (Nat.lt_of_lt_of_le (by decide) hN) rfl (hR _ _ _ rfl) ?_
    refine E_iload_n dX4_land_18 rfl ?_
    refine E_aload_n dX4_land_19 rfl ?_
    refine E_getR dX4_land_20 f_X4_12 rfl (Nat.lt_of_lt_of_le (by decide) hN) rfl (hR _ _ _ rfl) ?_
    refine E_getR dX4_land_23 f_X4_18 rfl (Nat.lt_of_lt_of_le (by decide) hN) rfl (hR _ _ _ rfl) ?_
    refine E_iload_n dX4_land_26 rfl ?_
    refine E_ialdN dX4_land_27 rfl (Nat.lt_of_lt_of_le (by decide) hN) (by omega) ?_
    refine E.top (hP.2.2 (w - 1) (by omega)) ?_
    refine E_sp (nI 255) dX4_land_28 (by decide) ?_
    refine E_iand dX4_land_31 ?_
    refine E.top (wd_and wc_lt (hd (w - 1) (by omega)).2) ?_
    refine E_aload_n dX4_land_32 rfl ?_
    refine E_getI dX4_land_33 f_X4_32 rfl (Nat.lt_of_lt_of_le (by decide) hN) rfl ?_
    refine E.top (hP.2.1) ?_
    refine E_bp (nI 8) dX4_land_36 (by decide) ?_
    refine E_ishl dX4_land_38 ?_
    refine E.top (wd_shl (by omega)) ?_
    refine E_ior dX4_land_39 ?_
    refine E.top (wd_or wc_lt (by omega)) ?_
    refine E_iastN dX4_land_40 rfl (Nat.lt_of_lt_of_le (by decide) hN) (by omega) ?_
    exact E_ret dX4_land_41 rfl (hQ _ (FLx.cd I _ _) ⟨(congrFun (up2_o _ 13 _ _ 11 (by decide)) 3).trans hP.1, (congrFun (up2_o _ 13 _ _ 11 (by decide)) 4).trans hP.2.1, fun i hi => by
            show up2 I 13 (w - 1) (nI (whc (q.2.2 (w - 1)).1 + 256 * q.2.1)) 13 i = nI (whc (ldL w q.2.1 q.2.2 i).1 + 256 * (ldL w q.2.1 q.2.2 i).2)
            by_cases e : i = w - 1
            · rw [e, ldL_s h0, up2_s]
            · rw [ldL_n (by omega), up2_k _ _ e]
              exact hP.2.2 i hi⟩)
def XSM (t c : Nat → Nat) (L k : Nat) : Prop := ∀ (g : GL) (d n : Nat) (I : IM) (J : JM) (R : RM) (Q : PQ) (q : TS), 2 * k + 6 ≤ d → 152 ≤ n → RS R → CLx t L I R → PLx q I → q.1 ≤ L → q.2.1 ≤ q.1 → OXL I J R n Q (smL c k q) → E g mX4_sum d 0 0 0 (ent 6 [.ref 11, .int (nI (6 - k))]) [] n I J R Q
def XFC (t c : Nat → Nat) (L k : Nat) : Prop := ∀ (g : GL) (d n : Nat) (I : IM) (J : JM) (R : RM) (Q : PQ) (q : TS), 2 * k + 5 ≤ d → 152 ≤ n → RS R → CLx t L I R → PLx q I → q.1 ≤ L → q.2.1 ≤ q.1 → OXL I J R n Q (fkL c k q) → E g mX4_factor d 0 0 0 (ent 6 [.ref 11, .int (nI (6 - k))]) [] n I J R Q
set_option maxRecDepth 100000 in
set_option maxHeartbeats 2000000 in
theorem x_digits {kk za zb : Int32} {s : Nat} {cd : CDE} (hd : 5 ≤ d) (hN : 152 ≤ n) (hR : RS R) (hc : okc t L c) (hL : L ≤ 240) : ∀ (e i p v : Nat) (I : IM), i + e = 5 → p ≤ L → s < (dgL c e p v).1 → (dgL c e p v).2 < 1048576 → CLx t L I R → PLx (p, s, cd) I → OXL I J R n Q (if 48 ≤ c (dgL c e p v).1 ∧ c (dgL c e p v).1 ≤ 57 then .inl (flt 2 (dgL c e p v).1) else .inr ((dgL c e p v).1, s + 1, cdU cd s (0, (dgL c e p v).2))) → E g mX4_factor d 0 0 108 [.ref 11, .int kk, .int za, .int zb, .int (nI v), .int (nI i)] [] n I J R Q := by
  have tl : ∀ {i p v : Nat} {I : IM}, p ≤ L → s < p → v < 1048576 → CLx t L I R → PLx (p, s, cd) I → OXL I J R n Q (if 48 ≤ c p ∧ c p ≤ 57 then .inl (flt 2 p) else .inr (p, s + 1, cdU cd s (0, v))) → E g mX4_factor d 0 0 155 [.ref 11, .int kk, .int za, .int zb, .int (nI v), .int (nI i)] [] n I J R Q := by
    intro i p v I hp hsp hV hC hP hQ
    refine E_aload_n dX4_factor_155 rfl ?_
    refine E_callV (As := []) (ci := 4) (kc' := 0) (ks' := 0) (kc := 0) (ks := 0) dX4_factor_156 ok_X4_next w_X4_51 i_X4_next s_X4_next rfl (by decide) rfl (Nat.lt_of_lt_of_le (by decide) hN) rfl rfl rfl (Nat.le_of_ble_eq_true rfl) (Nat.le_of_ble_eq_true rfl) (by omega) (x_nextL (d := 0) hN hR hc hL hC (p := p) (by omega) (hP.1) ?_)
    refine E_callSN (As := [_]) (kc' := 0) (ks' := 0) (kc := 0) (ks := 0) dX4_factor_159 ok_X11_isDigit w_X4_103 st_X11_isDigit rfl rfl rfl (Nat.le_of_ble_eq_true rfl) (Nat.le_of_ble_eq_true rfl) (by omega) (c_isDigit (d := 0) (fun d1 d2 => ?_) (fun d3 => ?_))
    · have y48 : 48 ≤ c p := by rcases Nat.lt_or_ge (c p) 48 with z | z; exact absurd d1 (Int32.not_le.mpr ((ch_lt (k := 48) (by decide)).mpr (Or.inl z))); exact z
      have y256 : c p < 256 := by rcases Nat.lt_or_ge (c p) 256 with z | z; exact z; exact absurd d1 (Int32.not_le.mpr ((ch_lt (k := 48) (by decide)).mpr (Or.inr z)))
      have y57 : c p ≤ 57 := by rcases Nat.lt_or_ge 57 (c p) with z | z; exact absurd d2 (Int32.not_le.mpr ((ch_gt (k := 57) (by decide)).mpr ⟨z, y256⟩)); exact z
      refine E_zN_eq (a := 1) (tgt := 171) dX4_factor_162 (by decide) (by decide) (fun cw162 => absurd cw162 (by omega)) (fun cw162 => ?_)
      refine E_aload_n dX4_factor_165 rfl ?_
      refine E_ic (nI 2) dX4_factor_166 (by decide) ?_
      refine E_callV (As := [_]) (ci := 4) (kc' := 0) (ks' := 0) (kc := 0) (ks := 0) dX4_factor_167 ok_X4_fails w_X4_59 i_X4_fails s_X4_fails rfl (by decide) rfl (Nat.lt_of_lt_of_le (by decide) hN) rfl rfl rfl (Nat.le_of_ble_eq_true rfl) (Nat.le_of_ble_eq_true rfl) (by omega) (x_failsL (d := 0) (k := 2) (p := p) hN (hP.1) ?_)
      exact E_zret dX4_factor_170 rfl (by decide) ((hQ.l (if_pos ⟨y48, y57⟩)) _ (FLx.up I _ (by decide)) (up2_s _ _ _ _))
    · have yn : ¬ (48 ≤ c p ∧ c p ≤ 57) := fun z => by rcases d3 with d3 | d3; (have := (ch_lt (k := 48) (by decide)).mp d3; omega); (have := (ch_gt (k := 57) (by decide)).mp d3; omega)
      refine E_zN_eq (a := 0) (tgt := 171) dX4_factor_162 (by decide) (by decide) (fun cw162 => ?_) (fun cw162 => absurd cw162 (by omega))
      refine E_aload_n dX4_factor_171 rfl ?_
      refine E_bp (nI 78) dX4_factor_172 (by decide) ?_
      refine E_iload dX4_factor_174 rfl ?_
      refine E_callV (As := [_, _]) (ci := 4) (kc' := 0) (ks' := 0) (kc := 0) (ks := 0) dX4_factor_176 ok_X4_emit w_X4_93 i_X4_emit s_X4_emit rfl (by decide) rfl (Nat.lt_of_lt_of_le (by decide) hN) rfl rfl rfl (Nat.le_of_ble_eq_true rfl) (Nat.le_of_ble_eq_true rfl) (by omega) (x_emitL (d := 0) (op := 0) (v := v) (q := (p, s, cd)) hN hR (by show s < 240; omega) hV hP (fun I2 f2 p2 => ?_))
      refine E_pop dX4_factor_179 rfl ?_
      refine E_ic (nI 1) dX4_factor_180 (by decide) ?_
      exact E_zret dX4_factor_181 rfl (by decide) ((hQ.r (if_neg yn)) I2 f2 p2)
  intro e
  induction e with
  | zero =>
    intro i p v I hie hp hsp hV hC hP hQ
    refine E_iload dX4_factor_108 rfl ?_
    refine E_ic (nI 5) dX4_factor_110 (by decide) ?_
    refine E_cN_ge (a := i) (b := 5) (tgt := 155) dX4_factor_111 (by omega) (by decide) (by decide) (fun cw111 => ?_) (fun cw111 => absurd cw111 (by omega))
    exact tl hp hsp hV hC hP hQ
  | succ e ih =>
    intro i p v I hie hp hsp hV hC hP hQ
    refine E_iload dX4_factor_108 rfl ?_
    refine E_ic (nI 5) dX4_factor_110 (by decide) ?_
    refine E_cN_ge (a := i) (b := 5) (tgt := 155) dX4_factor_111 (by omega) (by decide) (by decide) (fun cw111 => absurd cw111 (by omega)) (fun cw111 => ?_)
    refine E_aload_n dX4_factor_114 rfl ?_
    refine E_callV (As := []) (ci := 4) (kc' := 0) (ks' := 0) (kc := 0) (ks := 0) dX4_factor_115 ok_X4_next w_X4_51 i_X4_next s_X4_next rfl (by decide) rfl (Nat.lt_of_lt_of_le (by decide) hN) rfl rfl rfl (Nat.le_of_ble_eq_true rfl) (Nat.le_of_ble_eq_true rfl) (by omega) (x_nextL (d := 0) hN hR hc hL hC (p := p) (by omega) (hP.1) ?_)
    refine E_callSN (As := [_]) (kc' := 0) (ks' := 0) (kc := 0) (ks := 0) dX4_factor_118 ok_X11_isDigit w_X4_103 st_X11_isDigit rfl rfl rfl (Nat.le_of_ble_eq_true rfl) (Nat.le_of_ble_eq_true rfl) (by omega) (c_isDigit (d := 0) (fun d1 d2 => ?_) (fun d3 => ?_))
    · have y48 : 48 ≤ c p := by rcases Nat.lt_or_ge (c p) 48 with z | z; exact absurd d1 (Int32.not_le.mpr ((ch_lt (k := 48) (by decide)).mpr (Or.inl z))); exact z
      have y256 : c p < 256 := by rcases Nat.lt_or_ge (c p) 256 with z | z; exact z; exact absurd d1 (Int32.not_le.mpr ((ch_lt (k := 48) (by decide)).mpr (Or.inr z)))
      have y57 : c p ≤ 57 := by rcases Nat.lt_or_ge 57 (c p) with z | z; exact absurd d2 (Int32.not_le.mpr ((ch_gt (k := 57) (by decide)).mpr ⟨z, y256⟩)); exact z
      refine E_zN_eq (a := 1) (tgt := 155) dX4_factor_121 (by decide) (by decide) (fun cw121 => absurd cw121 (by omega)) (fun cw121 => ?_)
      refine E_iload dX4_factor_124 rfl ?_
      refine E_bp (nI 10) dX4_factor_126 (by decide) ?_
      refine E_imul dX4_factor_128 ?_
      refine E.top (pk_mul v 10) ?_
      refine E_aload_n dX4_factor_129 rfl ?_
      refine E_callV (As := []) (ci := 4) (kc' := 0) (ks' := 0) (kc := 0) (ks := 0) dX4_factor_130 ok_X4_next w_X4_51 i_X4_next s_X4_next rfl (by decide) rfl (Nat.lt_of_lt_of_le (by decide) hN) rfl rfl rfl (Nat.le_of_ble_eq_true rfl) (Nat.le_of_ble_eq_true rfl) (by omega) (x_nextL (d := 0) hN hR hc hL hC (p := p) (by omega) (hP.1) ?_)
      refine E_iadd dX4_factor_133 ?_
      refine E_bp (nI 48) dX4_factor_134 (by decide) ?_
      refine E_isub dX4_factor_136 ?_
      refine E.top (show nI (v * 10) + chI (c p) - nI 48 = nI (v * 10 + (c p - 48)) by rw [show chI (c p) = nI (c p) from if_pos (by omega), nI_add, pk_sub (by omega)]; congr 1; omega) ?_
      refine E_istore dX4_factor_137 (Nat.le_of_ble_eq_true rfl) ?_
      refine E_aload_n dX4_factor_139 rfl ?_
      refine E_dup dX4_factor_140 rfl ?_
      refine E_getI dX4_factor_141 f_X4_29 rfl (Nat.lt_of_lt_of_le (by decide) hN) rfl ?_
      refine E.top (hP.1) ?_
      refine E_ic (nI 1) dX4_factor_144 (by decide) ?_
      refine E_iadd dX4_factor_145 ?_
      refine E.top (nI_add p 1) ?_
      refine E_putI dX4_factor_146 f_X4_29 rfl (Nat.lt_of_lt_of_le (by decide) hN) rfl ?_
      refine E_incN dX4_factor_149 rfl ?_
      refine E_goto (tgt := 108) dX4_factor_152 (by decide) ?_
      have e1 : dgL c (e + 1) p v = dgL c e (p + 1) (v * 10 + (c p - 48)) := if_pos ⟨y48, y57⟩
      rw [e1] at hQ hV hsp
      have hp2 := hc.lt (p := p) (by omega)
      exact ih (i + 1) (p + 1) (v * 10 + (c p - 48)) _ (by omega) (by omega) hsp hV (hC.keep (FLx.up I _ (by decide))) (hP.at (p + 1)) (hQ.from (FLx.up I _ (by decide)))
    · have yn : ¬ (48 ≤ c p ∧ c p ≤ 57) := fun z => by rcases d3 with d3 | d3; (have := (ch_lt (k := 48) (by decide)).mp d3; omega); (have := (ch_gt (k := 57) (by decide)).mp d3; omega)
      refine E_zN_eq (a := 0) (tgt := 155) dX4_factor_121 (by decide) (by decide) (fun cw121 => ?_) (fun cw121 => absurd cw121 (by omega))
      have e1 : dgL c (e + 1) p v = (p, v) := if_neg yn
      rw [e1] at hQ hV hsp
      exact tl hp hsp hV hC hP hQ
set_option maxRecDepth 100000 in
set_option maxHeartbeats 2000000 in
theorem x_factor {k : Nat} (hk : k ≤ 6) (hc : okc t L c) (hL : L ≤ 240) (S : ¬ k = 0 → XSM t c L (k - 1)) : XFC t c L k := by
  intro g d n I J R Q q hd hN hR hC hP hq hs hQ
  have ek : fkL c k q = (if c q.1 = 91 then (if k = 0 then .inl (flt 5 q.1) else bnd (smL c (k - 1) (q.1 + 1, q.2)) (psL c 93)) else atL c q) := by
    cases k with
    | zero => rfl
    | succ k => rfl
  by_cases c1 : c q.1 = 91
  · have hp := hc.lt (p := q.1) (by omega)
    by_cases h0 : k = 0
    · skip
      refine E_aload_n dX4_factor_0 rfl ?_
      refine E_callV (As := []) (ci := 4) (kc' := 0) (ks' := 0) (kc := 0) (ks := 0) dX4_factor_1 ok_X4_next w_X4_51 i_X4_next s_X4_next rfl (by decide) rfl (Nat.lt_of_lt_of_le (by decide) hN) rfl rfl rfl (Nat.le_of_ble_eq_true rfl) (Nat.le_of_ble_eq_true rfl) (by omega) (x_nextL (d := 0) hN hR hc hL hC (p := q.1) (by omega) (hP.1) ?_)
      refine E_istore_n dX4_factor_4 (Nat.le_of_ble_eq_true rfl) ?_
      refine E_iload_n dX4_factor_5 rfl ?_
      refine E_bp (nI 91) dX4_factor_6 (by decide) ?_
      refine E_icmp_ne (tgt := 58) dX4_factor_8 (by decide) (fun cw8 => by first | exact absurd cw8 ((ch_eq (by decide)).mpr c1) | exact absurd ((ch_eq (by decide)).mpr c1) cw8) (fun cw8 => ?_)
      refine E_iload_n dX4_factor_11 rfl ?_
      refine E_bp (nI 6) dX4_factor_12 (by decide) ?_
      refine E_cN_lt (a := 6 - k) (b := 6) (tgt := 23) dX4_factor_14 (by omega) (by decide) (by decide) (fun cw14 => absurd cw14 (by omega)) (fun cw14 => ?_)
      refine E_aload_n dX4_factor_17 rfl ?_
      refine E_ic (nI 5) dX4_factor_18 (by decide) ?_
      refine E_callV (As := [_]) (ci := 4) (kc' := 0) (ks' := 0) (kc := 0) (ks := 0) dX4_factor_19 ok_X4_fails w_X4_59 i_X4_fails s_X4_fails rfl (by decide) rfl (Nat.lt_of_lt_of_le (by decide) hN) rfl rfl rfl (Nat.le_of_ble_eq_true rfl) (Nat.le_of_ble_eq_true rfl) (by omega) (x_failsL (d := 0) (k := 5) (p := q.1) hN (hP.1) ?_)
      exact E_zret dX4_factor_22 rfl (by decide) ((hQ.l (ek.trans ((if_pos c1).trans (if_pos h0)))) _ (FLx.up I _ (by decide)) (up2_s _ _ _ _))
    · skip
      refine E_aload_n dX4_factor_0 rfl ?_
      refine E_callV (As := []) (ci := 4) (kc' := 0) (ks' := 0) (kc := 0) (ks := 0) dX4_factor_1 ok_X4_next w_X4_51 i_X4_next s_X4_next rfl (by decide) rfl (Nat.lt_of_lt_of_le (by decide) hN) rfl rfl rfl (Nat.le_of_ble_eq_true rfl) (Nat.le_of_ble_eq_true rfl) (by omega) (x_nextL (d := 0) hN hR hc hL hC (p := q.1) (by omega) (hP.1) ?_)
      refine E_istore_n dX4_factor_4 (Nat.le_of_ble_eq_true rfl) ?_
      refine E_iload_n dX4_factor_5 rfl ?_
      refine E_bp (nI 91) dX4_factor_6 (by decide) ?_
      refine E_icmp_ne (tgt := 58) dX4_factor_8 (by decide) (fun cw8 => by first | exact absurd cw8 ((ch_eq (by decide)).mpr c1) | exact absurd ((ch_eq (by decide)).mpr c1) cw8) (fun cw8 => ?_)
      refine E_iload_n dX4_factor_11 rfl ?_
      refine E_bp (nI 6) dX4_factor_12 (by decide) ?_
      refine E_cN_lt (a := 6 - k) (b := 6) (tgt := 23) dX4_factor_14 (by omega) (by decide) (by decide) (fun cw14 => ?_) (fun cw14 => absurd cw14 (by omega))
      refine E_aload_n dX4_factor_23 rfl ?_
      refine E_dup dX4_factor_24 rfl ?_
      refine E_getI dX4_factor_25 f_X4_29 rfl (Nat.lt_of_lt_of_le (by decide) hN) rfl ?_
      refine E.top (hP.1) ?_
      refine E_ic (nI 1) dX4_factor_28 (by decide) ?_
      refine E_iadd dX4_factor_29 ?_
      refine E.top (nI_add (q.1) 1) ?_
      refine E_putI dX4_factor_30 f_X4_29 rfl (Nat.lt_of_lt_of_le (by decide) hN) rfl ?_
      refine E_aload_n dX4_factor_33 rfl ?_
      refine E_iload_n dX4_factor_34 rfl ?_
      refine E_ic (nI 1) dX4_factor_35 (by decide) ?_
      refine E_iadd dX4_factor_36 ?_
      refine E.top (nI_add (6 - k) 1) ?_
      refine E.top (congrArg nI (show 6 - k + 1 = 6 - (k - 1) by omega)) ?_
      refine E_callV (As := [_]) (ci := 4) (kc' := 0) (ks' := 0) (kc := 0) (ks := 0) dX4_factor_37 ok_X4_sum w_X4_74 i_X4_sum s_X4_sum rfl (by decide) rfl (Nat.lt_of_lt_of_le (by decide) hN) rfl rfl rfl (Nat.le_of_ble_eq_true rfl) (Nat.le_of_ble_eq_true rfl) (by omega) (S h0 g (d - 1) n _ J R _ (q.1 + 1, q.2) (by omega) hN hR (hC.keep (FLx.up I (nI (q.1 + 1)) (by decide))) (hP.at (q.1 + 1)) hp (Nat.le_succ_of_le hs) ?_)
      cases hsm : smL c (k - 1) (q.1 + 1, q.2) with
      | inl x =>
        intro I4 f4 e4
        refine E_zN_eq (a := 0) (tgt := 56) dX4_factor_40 (by decide) (by decide) (fun cw40 => ?_) (fun cw40 => absurd cw40 (by omega))
        refine E_ic (nI 0) dX4_factor_56 (by decide) ?_
        exact E_zret dX4_factor_57 rfl (by decide) ((hQ.l (ek.trans ((if_pos c1).trans ((if_neg h0).trans (bnd_l hsm))))) I4 ((FLx.up I (nI (q.1 + 1)) (by decide)).trans f4) e4)
      | inr r =>
        intro I4 f4 p4
        have f4a := f4
        have p4a := p4
        have gr := (sm_ok hc (k - 1) (q.1 + 1, q.2) r hp (Nat.le_succ_of_le hs) hsm).1.2.1
        clear f4 p4
        refine E_zN_eq (a := 1) (tgt := 56) dX4_factor_40 (by decide) (by decide) (fun cw40 => absurd cw40 (by omega)) (fun cw40 => ?_)
        refine E_aload_n dX4_factor_43 rfl ?_
        refine E_bp (nI 93) dX4_factor_44 (by decide) ?_
        refine E_callV (As := [_]) (ci := 4) (kc' := 0) (ks' := 0) (kc := 0) (ks := 0) dX4_factor_46 ok_X4_passes w_X4_55 i_X4_passes s_X4_passes rfl (by decide) rfl (Nat.lt_of_lt_of_le (by decide) hN) rfl rfl rfl (Nat.le_of_ble_eq_true rfl) (Nat.le_of_ble_eq_true rfl) (by omega) (x_passesL (d := 0) (q := r) (z := 93) hN hR hc hL ((hC.keep (FLx.up I (nI (q.1 + 1)) (by decide))).keep f4a) (by decide) gr p4a ?_)
        cases hps : psL c 93 r with
        | inl x =>
          intro I4 f4 e4
          refine E_zN_eq (a := 0) (tgt := 56) dX4_factor_49 (by decide) (by decide) (fun cw49 => ?_) (fun cw49 => absurd cw49 (by omega))
          refine E_ic (nI 0) dX4_factor_56 (by decide) ?_
          exact E_zret dX4_factor_57 rfl (by decide) ((hQ.l (ek.trans ((if_pos c1).trans ((if_neg h0).trans ((bnd_r hsm).trans hps))))) I4 (((FLx.up I (nI (q.1 + 1)) (by decide)).trans f4a).trans f4) e4)
        | inr r2 =>
          intro I4 f4 p4
          refine E_zN_eq (a := 1) (tgt := 56) dX4_factor_49 (by decide) (by decide) (fun cw49 => absurd cw49 (by omega)) (fun cw49 => ?_)
          refine E_ic (nI 1) dX4_factor_52 (by decide) ?_
          refine E_goto (tgt := 57) dX4_factor_53 (by decide) ?_
          exact E_zret dX4_factor_57 rfl (by decide) ((hQ.r (ek.trans ((if_pos c1).trans ((if_neg h0).trans ((bnd_r hsm).trans hps))))) I4 (((FLx.up I (nI (q.1 + 1)) (by decide)).trans f4a).trans f4) p4)
  · by_cases c2 : knL (c q.1) < 9
    · have hp := hc.lt (kn_lt c2)
      refine E_aload_n dX4_factor_0 rfl ?_
      refine E_callV (As := []) (ci := 4) (kc' := 0) (ks' := 0) (kc := 0) (ks := 0) dX4_factor_1 ok_X4_next w_X4_51 i_X4_next s_X4_next rfl (by decide) rfl (Nat.lt_of_lt_of_le (by decide) hN) rfl rfl rfl (Nat.le_of_ble_eq_true rfl) (Nat.le_of_ble_eq_true rfl) (by omega) (x_nextL (d := 0) hN hR hc hL hC (p := q.1) (by omega) (hP.1) ?_)
      refine E_istore_n dX4_factor_4 (Nat.le_of_ble_eq_true rfl) ?_
      refine E_iload_n dX4_factor_5 rfl ?_
      refine E_bp (nI 91) dX4_factor_6 (by decide) ?_
      refine E_icmp_ne (tgt := 58) dX4_factor_8 (by decide) (fun cw8 => ?_) (fun cw8 => by first | exact absurd cw8 ((fun z => c1 ((ch_eq (by decide)).mp z))) | exact absurd ((fun z => c1 ((ch_eq (by decide)).mp z))) cw8)
      refine E_ldcS (i := 2) dX4_factor_58 rfl ?_
      refine E_iload_n dX4_factor_60 rfl ?_
      refine E_callSN (As := [_, _]) (kc' := 0) (ks' := 0) (kc := 0) (ks := 0) dX4_factor_61 ok_X11_placeIn w_X4_64 st_X11_placeIn rfl rfl rfl (Nat.le_of_ble_eq_true rfl) (Nat.le_of_ble_eq_true rfl) (by omega) (c_placeIn (d := 0) (i := 2) rfl ?_)
      refine E.top ((pl_kn (c q.1)).trans (if_pos c2)) ?_
      refine E_istore_n dX4_factor_64 (Nat.le_of_ble_eq_true rfl) ?_
      refine E_iload_n dX4_factor_65 rfl ?_
      refine E_zN_lt (a := knL (c q.1)) (tgt := 89) dX4_factor_66 (by omega) (by decide) (fun cw66 => cw66.elim) (fun cw66 => ?_)
      refine E_aload_n dX4_factor_69 rfl ?_
      refine E_dup dX4_factor_70 rfl ?_
      refine E_getI dX4_factor_71 f_X4_29 rfl (Nat.lt_of_lt_of_le (by decide) hN) rfl ?_
      refine E.top (hP.1) ?_
      refine E_ic (nI 1) dX4_factor_74 (by decide) ?_
      refine E_iadd dX4_factor_75 ?_
      refine E.top (nI_add (q.1) 1) ?_
      refine E_putI dX4_factor_76 f_X4_29 rfl (Nat.lt_of_lt_of_le (by decide) hN) rfl ?_
      refine E_aload_n dX4_factor_79 rfl ?_
      refine E_bp (nI 75) dX4_factor_80 (by decide) ?_
      refine E_iload_n dX4_factor_82 rfl ?_
      refine E_callV (As := [_, _]) (ci := 4) (kc' := 0) (ks' := 0) (kc := 0) (ks := 0) dX4_factor_83 ok_X4_emit w_X4_93 i_X4_emit s_X4_emit rfl (by decide) rfl (Nat.lt_of_lt_of_le (by decide) hN) rfl rfl rfl (Nat.le_of_ble_eq_true rfl) (Nat.le_of_ble_eq_true rfl) (by omega) (x_emitL (d := 0) (op := 1) (v := knL (c q.1)) (q := (q.1 + 1, q.2)) hN hR (by show q.2.1 < 240; omega) (by omega) (hP.at (q.1 + 1)) (fun I2 f2 p2 => ?_))
      refine E_pop dX4_factor_86 rfl ?_
      refine E_ic (nI 1) dX4_factor_87 (by decide) ?_
      exact E_zret dX4_factor_88 rfl (by decide) ((hQ.r (ek.trans ((if_neg c1).trans (if_pos c2)))) I2 ((FLx.up I (nI (q.1 + 1)) (by decide)).trans f2) p2)
    · skip
      refine E_aload_n dX4_factor_0 rfl ?_
      refine E_callV (As := []) (ci := 4) (kc' := 0) (ks' := 0) (kc := 0) (ks := 0) dX4_factor_1 ok_X4_next w_X4_51 i_X4_next s_X4_next rfl (by decide) rfl (Nat.lt_of_lt_of_le (by decide) hN) rfl rfl rfl (Nat.le_of_ble_eq_true rfl) (Nat.le_of_ble_eq_true rfl) (by omega) (x_nextL (d := 0) hN hR hc hL hC (p := q.1) (by omega) (hP.1) ?_)
      refine E_istore_n dX4_factor_4 (Nat.le_of_ble_eq_true rfl) ?_
      refine E_iload_n dX4_factor_5 rfl ?_
      refine E_bp (nI 91) dX4_factor_6 (by decide) ?_
      refine E_icmp_ne (tgt := 58) dX4_factor_8 (by decide) (fun cw8 => ?_) (fun cw8 => by first | exact absurd cw8 ((fun z => c1 ((ch_eq (by decide)).mp z))) | exact absurd ((fun z => c1 ((ch_eq (by decide)).mp z))) cw8)
      refine E_ldcS (i := 2) dX4_factor_58 rfl ?_
      refine E_iload_n dX4_factor_60 rfl ?_
      refine E_callSN (As := [_, _]) (kc' := 0) (ks' := 0) (kc := 0) (ks := 0) dX4_factor_61 ok_X11_placeIn w_X4_64 st_X11_placeIn rfl rfl rfl (Nat.le_of_ble_eq_true rfl) (Nat.le_of_ble_eq_true rfl) (by omega) (c_placeIn (d := 0) (i := 2) rfl ?_)
      refine E.top ((pl_kn (c q.1)).trans (if_neg c2)) ?_
      refine E_istore_n dX4_factor_64 (Nat.le_of_ble_eq_true rfl) ?_
      refine E_iload_n dX4_factor_65 rfl ?_
      refine E_if_lt (tgt := 89) dX4_factor_66 (by decide) (fun cw66 => ?_) (fun cw66 => by first | exact absurd cw66 ((by decide)) | exact absurd ((by decide)) cw66)
      refine E_iload_n dX4_factor_89 rfl ?_
      refine E_callSN (As := [_]) (kc' := 0) (ks' := 0) (kc := 0) (ks := 0) dX4_factor_90 ok_X11_isDigit w_X4_103 st_X11_isDigit rfl rfl rfl (Nat.le_of_ble_eq_true rfl) (Nat.le_of_ble_eq_true rfl) (by omega) (c_isDigit (d := 0) (fun d1 d2 => ?_) (fun d3 => ?_))
      · have y48 : 48 ≤ c (q.1) := by rcases Nat.lt_or_ge (c (q.1)) 48 with z | z; exact absurd d1 (Int32.not_le.mpr ((ch_lt (k := 48) (by decide)).mpr (Or.inl z))); exact z
        have y256 : c (q.1) < 256 := by rcases Nat.lt_or_ge (c (q.1)) 256 with z | z; exact z; exact absurd d1 (Int32.not_le.mpr ((ch_lt (k := 48) (by decide)).mpr (Or.inr z)))
        have y57 : c (q.1) ≤ 57 := by rcases Nat.lt_or_ge 57 (c (q.1)) with z | z; exact absurd d2 (Int32.not_le.mpr ((ch_gt (k := 57) (by decide)).mpr ⟨z, y256⟩)); exact z
        refine E_zN_ne (a := 1) (tgt := 102) dX4_factor_93 (by decide) (by decide) (fun cw93 => ?_) (fun cw93 => absurd cw93 (by omega))
        refine E_ic (nI 0) dX4_factor_102 (by decide) ?_
        refine E_istore dX4_factor_103 (Nat.le_of_ble_eq_true rfl) ?_
        refine E_ic (nI 0) dX4_factor_105 (by decide) ?_
        refine E_istore dX4_factor_106 (Nat.le_of_ble_eq_true rfl) ?_
        have e3 : fkL c k q = nbL c q := ek.trans ((if_neg c1).trans ((if_neg c2).trans (if_pos ⟨y48, y57⟩)))
        rw [e3] at hQ
        have d5 : q.1 + 1 ≤ (dgL c 5 q.1 0).1 := dg_1 hc (e := 4) (p := q.1) (v := 0) ⟨y48, y57⟩
        have hV : (dgL c 5 q.1 0).2 < 1048576 := Nat.lt_of_lt_of_le ((dg_ok hc 5 q.1 0 hq).2.2.2.2 1 (by decide)) (by decide)
        exact x_digits (d := d) (s := q.2.1) (cd := q.2.2) (by omega) hN hR hc hL 5 0 q.1 0 I rfl hq (by omega) hV hC hP hQ
      · have yn : ¬ (48 ≤ c (q.1) ∧ c (q.1) ≤ 57) := fun z => by rcases d3 with d3 | d3; (have := (ch_lt (k := 48) (by decide)).mp d3; omega); (have := (ch_gt (k := 57) (by decide)).mp d3; omega)
        refine E_zN_ne (a := 0) (tgt := 102) dX4_factor_93 (by decide) (by decide) (fun cw93 => absurd cw93 (by omega)) (fun cw93 => ?_)
        refine E_aload_n dX4_factor_96 rfl ?_
        refine E_ic (nI 1) dX4_factor_97 (by decide) ?_
        refine E_callV (As := [_]) (ci := 4) (kc' := 0) (ks' := 0) (kc := 0) (ks := 0) dX4_factor_98 ok_X4_fails w_X4_59 i_X4_fails s_X4_fails rfl (by decide) rfl (Nat.lt_of_lt_of_le (by decide) hN) rfl rfl rfl (Nat.le_of_ble_eq_true rfl) (Nat.le_of_ble_eq_true rfl) (by omega) (x_failsL (d := 0) (k := 1) (p := q.1) hN (hP.1) ?_)
        exact E_zret dX4_factor_101 rfl (by decide) ((hQ.l (ek.trans ((if_neg c1).trans ((if_neg c2).trans (if_neg yn))))) _ (FLx.up I _ (by decide)) (up2_s _ _ _ _))
end PLawX
