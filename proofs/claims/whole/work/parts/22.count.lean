/-! ===== count, who, check ===== -/
/-- the bits of those below m of whom it holds -/
def bitS (p : Nat → Nat) : Nat → Int32
  | 0 => nI 0
  | k + 1 => if 0 < p k then bitS p k ||| (nI 1 <<< (nI k &&& 31)) else bitS p k
def sumS (p : Nat → Nat) : Nat → Nat
  | 0 => 0
  | k + 1 => sumS p k + p k
theorem bitS_t {p : Nat → Nat} {k : Nat} (h : 0 < p k) : bitS p (k + 1) = bitS p k ||| (nI 1 <<< (nI k &&& 31)) := if_pos h
theorem bitS_f {p : Nat → Nat} {k : Nat} (h : p k = 0) : bitS p (k + 1) = bitS p k := if_neg (by omega)
theorem or_n0 (x : Int32) : x ||| nI 0 = x := Int32.or_zero
section PCount
variable {g : GL} {d n : Nat} {I : IM} {J : JM} {R : RM} {Q : PQ} {σ : ST}
theorem E.iorz {M : MD} {kc ks pc : Nat} {ls st : List Value} {x : Int32} (hd : decode M.2.1 pc = .ok (.ior, 1)) (k : E g M d kc ks (pc + 1) ls (.int x :: st) n I J R Q) : E g M d kc ks pc ls (.int (nI 0) :: .int x :: st) n I J R Q := E_ior hd (by rw [or_n0]; exact k)
set_option maxRecDepth 100000 in
set_option maxHeartbeats 2000000 in
theorem x_toldBits (hB : BND σ) (hX : XR σ n I R) (hQ : Q (some (.int (bitS (fun k => min 1 (σ 0 k 0)) 12))) n I J R) : E g mX11_toldBits d 0 0 0 (ent 3 [.ref 0]) [] n I J R Q := by
  have hN := hX.2.2.2.1.n.1
  have hR := hX.2.2.2.1.1
  have L : ∀ i, i ≤ 12 → E g mX11_toldBits d 0 0 4 [.ref 0, .int (bitS (fun k => min 1 (σ 0 k 0)) i), .int (nI i)] [] n I J R Q := by
    refine loopU 12 ?_ (fun i hi ih => ?_)
    · refine E_iload_n dX11_toldBits_4 rfl ?_
      refine E_bp (nI 12) dX11_toldBits_5 (by decide) ?_
      refine E_cN_ge (a := 12) (b := 12) (tgt := 38) dX11_toldBits_7 (by decide) (by decide) (by decide) (fun c7 => ?_) (fun c7 => absurd c7 (by omega))
      refine E_iload_n dX11_toldBits_38 rfl ?_
      exact E_iret dX11_toldBits_39 rfl (hQ)
    · have b := hB.1 i hi
      have b5 := b.2.2.1.2.2.2.2.1
      have b6 := b.2.2.1.2.2.2.2.2.1
      refine E_iload_n dX11_toldBits_4 rfl ?_
      refine E_bp (nI 12) dX11_toldBits_5 (by decide) ?_
      refine E_cN_ge (a := i) (b := 12) (tgt := 38) dX11_toldBits_7 (by omega) (by decide) (by decide) (fun c7 => absurd c7 (by omega)) (fun c7 => ?_)
      refine E_iload_n dX11_toldBits_10 rfl ?_
      refine E_aload_n dX11_toldBits_11 rfl ?_
      refine E_getR dX11_toldBits_12 f_X11_11 rfl (Nat.lt_of_lt_of_le (by decide) hN) rfl (hR _ _ _ rfl) ?_
      refine E_iload_n dX11_toldBits_15 rfl ?_
      refine E_aaldN dX11_toldBits_16 rfl (Nat.lt_of_lt_of_le (by decide) hN) (by first | assumption | omega) (hR _ _ _ (RT1 i (by first | assumption | omega))) ?_
      refine E_getI dX11_toldBits_17 f_X11_314 (LYw i (by first | assumption | omega)).1 (by first | assumption | omega) rfl ?_
      refine E.top ((hX.1 i (by first | assumption | omega)).2.1) ?_
      refine E_zN_eq (a := min 1 (σ 0 i 0)) (tgt := 29) dX11_toldBits_20 (by omega) (by decide) (fun c20 => ?_) (fun c20 => ?_)
      · refine E_ic (nI 0) dX11_toldBits_29 (by decide) ?_
        refine E.iorz dX11_toldBits_30 ?_
        refine E_istore_n dX11_toldBits_31 (Nat.le_of_ble_eq_true rfl) ?_
        refine E_incN dX11_toldBits_32 rfl ?_
        refine E_goto (tgt := 4) dX11_toldBits_35 (by decide) ?_
        refine E.mask [true, true, true] ?_
        rw [bitS_f (by omega)] at ih
        exact ih
      · refine E_ic (nI 1) dX11_toldBits_23 (by decide) ?_
        refine E_iload_n dX11_toldBits_24 rfl ?_
        refine E_ishl dX11_toldBits_25 ?_
        refine E_goto (tgt := 30) dX11_toldBits_26 (by decide) ?_
        refine E_ior dX11_toldBits_30 ?_
        refine E_istore_n dX11_toldBits_31 (Nat.le_of_ble_eq_true rfl) ?_
        refine E_incN dX11_toldBits_32 rfl ?_
        refine E_goto (tgt := 4) dX11_toldBits_35 (by decide) ?_
        rw [bitS_t (by omega)] at ih
        exact ih
  refine E_ic (nI 0) dX11_toldBits_0 (by decide) ?_
  refine E_istore_n dX11_toldBits_1 (Nat.le_of_ble_eq_true rfl) ?_
  refine E_ic (nI 0) dX11_toldBits_2 (by decide) ?_
  refine E_istore_n dX11_toldBits_3 (Nat.le_of_ble_eq_true rfl) ?_
  exact L 0 (by omega)
set_option maxRecDepth 100000 in
set_option maxHeartbeats 2000000 in
theorem x_brokenBits (hB : BND σ) (hX : XR σ n I R) (hQ : Q (some (.int (bitS (fun k => σ 3 k 5) 12))) n I J R) : E g mX11_brokenBits d 0 0 0 (ent 3 [.ref 0]) [] n I J R Q := by
  have hN := hX.2.2.2.1.n.1
  have hR := hX.2.2.2.1.1
  have L : ∀ i, i ≤ 12 → E g mX11_brokenBits d 0 0 4 [.ref 0, .int (bitS (fun k => σ 3 k 5) i), .int (nI i)] [] n I J R Q := by
    refine loopU 12 ?_ (fun i hi ih => ?_)
    · refine E_iload_n dX11_brokenBits_4 rfl ?_
      refine E_bp (nI 12) dX11_brokenBits_5 (by decide) ?_
      refine E_cN_ge (a := 12) (b := 12) (tgt := 41) dX11_brokenBits_7 (by decide) (by decide) (by decide) (fun c7 => ?_) (fun c7 => absurd c7 (by omega))
      refine E_iload_n dX11_brokenBits_41 rfl ?_
      exact E_iret dX11_brokenBits_42 rfl (hQ)
    · have b := hB.1 i hi
      have b5 := b.2.2.1.2.2.2.2.1
      have b6 := b.2.2.1.2.2.2.2.2.1
      refine E_iload_n dX11_brokenBits_4 rfl ?_
      refine E_bp (nI 12) dX11_brokenBits_5 (by decide) ?_
      refine E_cN_ge (a := i) (b := 12) (tgt := 41) dX11_brokenBits_7 (by omega) (by decide) (by decide) (fun c7 => absurd c7 (by omega)) (fun c7 => ?_)
      refine E_iload_n dX11_brokenBits_10 rfl ?_
      refine E_aload_n dX11_brokenBits_11 rfl ?_
      refine E_getR dX11_brokenBits_12 f_X11_11 rfl (Nat.lt_of_lt_of_le (by decide) hN) rfl (hR _ _ _ rfl) ?_
      refine E_iload_n dX11_brokenBits_15 rfl ?_
      refine E_aaldN dX11_brokenBits_16 rfl (Nat.lt_of_lt_of_le (by decide) hN) (by first | assumption | omega) (hR _ _ _ (RT1 i (by first | assumption | omega))) ?_
      refine E_getR dX11_brokenBits_17 f_X11_146 (LYw i (by first | assumption | omega)).1 (by first | assumption | omega) rfl (hR _ _ _ (RTw i (by first | assumption | omega)).2.2.1) ?_
      refine E_getI dX11_brokenBits_20 f_X11_193 (LYw i (by first | assumption | omega)).2.2.2.1 (by first | assumption | omega) rfl ?_
      refine E.top ((hX.1 i (by first | assumption | omega)).2.2.2.1 5 (by decide)) ?_
      refine E_zN_eq (a := σ 3 i 5) (tgt := 32) dX11_brokenBits_23 (by omega) (by decide) (fun c23 => ?_) (fun c23 => ?_)
      · refine E_ic (nI 0) dX11_brokenBits_32 (by decide) ?_
        refine E.iorz dX11_brokenBits_33 ?_
        refine E_istore_n dX11_brokenBits_34 (Nat.le_of_ble_eq_true rfl) ?_
        refine E_incN dX11_brokenBits_35 rfl ?_
        refine E_goto (tgt := 4) dX11_brokenBits_38 (by decide) ?_
        refine E.mask [true, true, true] ?_
        rw [bitS_f (by omega)] at ih
        exact ih
      · refine E_ic (nI 1) dX11_brokenBits_26 (by decide) ?_
        refine E_iload_n dX11_brokenBits_27 rfl ?_
        refine E_ishl dX11_brokenBits_28 ?_
        refine E_goto (tgt := 33) dX11_brokenBits_29 (by decide) ?_
        refine E_ior dX11_brokenBits_33 ?_
        refine E_istore_n dX11_brokenBits_34 (Nat.le_of_ble_eq_true rfl) ?_
        refine E_incN dX11_brokenBits_35 rfl ?_
        refine E_goto (tgt := 4) dX11_brokenBits_38 (by decide) ?_
        rw [bitS_t (by omega)] at ih
        exact ih
  refine E_ic (nI 0) dX11_brokenBits_0 (by decide) ?_
  refine E_istore_n dX11_brokenBits_1 (Nat.le_of_ble_eq_true rfl) ?_
  refine E_ic (nI 0) dX11_brokenBits_2 (by decide) ?_
  refine E_istore_n dX11_brokenBits_3 (Nat.le_of_ble_eq_true rfl) ?_
  exact L 0 (by omega)
set_option maxRecDepth 100000 in
set_option maxHeartbeats 2000000 in
theorem x_openBits (hB : BND σ) (hX : XR σ n I R) (hQ : Q (some (.int (bitS (fun k => σ 3 k 4) 12))) n I J R) : E g mX11_openBits d 0 0 0 (ent 3 [.ref 0]) [] n I J R Q := by
  have hN := hX.2.2.2.1.n.1
  have hR := hX.2.2.2.1.1
  have L : ∀ i, i ≤ 12 → E g mX11_openBits d 0 0 4 [.ref 0, .int (bitS (fun k => σ 3 k 4) i), .int (nI i)] [] n I J R Q := by
    refine loopU 12 ?_ (fun i hi ih => ?_)
    · refine E_iload_n dX11_openBits_4 rfl ?_
      refine E_bp (nI 12) dX11_openBits_5 (by decide) ?_
      refine E_cN_ge (a := 12) (b := 12) (tgt := 41) dX11_openBits_7 (by decide) (by decide) (by decide) (fun c7 => ?_) (fun c7 => absurd c7 (by omega))
      refine E_iload_n dX11_openBits_41 rfl ?_
      exact E_iret dX11_openBits_42 rfl (hQ)
    · have b := hB.1 i hi
      have b5 := b.2.2.1.2.2.2.2.1
      have b6 := b.2.2.1.2.2.2.2.2.1
      refine E_iload_n dX11_openBits_4 rfl ?_
      refine E_bp (nI 12) dX11_openBits_5 (by decide) ?_
      refine E_cN_ge (a := i) (b := 12) (tgt := 41) dX11_openBits_7 (by omega) (by decide) (by decide) (fun c7 => absurd c7 (by omega)) (fun c7 => ?_)
      refine E_iload_n dX11_openBits_10 rfl ?_
      refine E_aload_n dX11_openBits_11 rfl ?_
      refine E_getR dX11_openBits_12 f_X11_11 rfl (Nat.lt_of_lt_of_le (by decide) hN) rfl (hR _ _ _ rfl) ?_
      refine E_iload_n dX11_openBits_15 rfl ?_
      refine E_aaldN dX11_openBits_16 rfl (Nat.lt_of_lt_of_le (by decide) hN) (by first | assumption | omega) (hR _ _ _ (RT1 i (by first | assumption | omega))) ?_
      refine E_getR dX11_openBits_17 f_X11_146 (LYw i (by first | assumption | omega)).1 (by first | assumption | omega) rfl (hR _ _ _ (RTw i (by first | assumption | omega)).2.2.1) ?_
      refine E_getI dX11_openBits_20 f_X11_180 (LYw i (by first | assumption | omega)).2.2.2.1 (by first | assumption | omega) rfl ?_
      refine E.top ((hX.1 i (by first | assumption | omega)).2.2.2.1 4 (by decide)) ?_
      refine E_zN_eq (a := σ 3 i 4) (tgt := 32) dX11_openBits_23 (by omega) (by decide) (fun c23 => ?_) (fun c23 => ?_)
      · refine E_ic (nI 0) dX11_openBits_32 (by decide) ?_
        refine E.iorz dX11_openBits_33 ?_
        refine E_istore_n dX11_openBits_34 (Nat.le_of_ble_eq_true rfl) ?_
        refine E_incN dX11_openBits_35 rfl ?_
        refine E_goto (tgt := 4) dX11_openBits_38 (by decide) ?_
        refine E.mask [true, true, true] ?_
        rw [bitS_f (by omega)] at ih
        exact ih
      · refine E_ic (nI 1) dX11_openBits_26 (by decide) ?_
        refine E_iload_n dX11_openBits_27 rfl ?_
        refine E_ishl dX11_openBits_28 ?_
        refine E_goto (tgt := 33) dX11_openBits_29 (by decide) ?_
        refine E_ior dX11_openBits_33 ?_
        refine E_istore_n dX11_openBits_34 (Nat.le_of_ble_eq_true rfl) ?_
        refine E_incN dX11_openBits_35 rfl ?_
        refine E_goto (tgt := 4) dX11_openBits_38 (by decide) ?_
        rw [bitS_t (by omega)] at ih
        exact ih
  refine E_ic (nI 0) dX11_openBits_0 (by decide) ?_
  refine E_istore_n dX11_openBits_1 (Nat.le_of_ble_eq_true rfl) ?_
  refine E_ic (nI 0) dX11_openBits_2 (by decide) ?_
  refine E_istore_n dX11_openBits_3 (Nat.le_of_ble_eq_true rfl) ?_
  exact L 0 (by omega)
set_option maxRecDepth 100000 in
set_option maxHeartbeats 2000000 in
theorem x_layersLeft (hB : BND σ) (hX : XR σ n I R) (hQ : Q (some (.int (nI (sumS (fun k => σ 0 k 0 - σ 3 k 3) 12)))) n I J R) : E g mX11_layersLeft d 0 0 0 (ent 3 [.ref 0]) [] n I J R Q := by
  have hN := hX.2.2.2.1.n.1
  have hR := hX.2.2.2.1.1
  have L : ∀ i, i ≤ 12 → E g mX11_layersLeft d 0 0 4 [.ref 0, .int (nI (sumS (fun k => σ 0 k 0 - σ 3 k 3) i)), .int (nI i)] [] n I J R Q := by
    refine loopU 12 ?_ (fun i hi ih => ?_)
    · refine E_iload_n dX11_layersLeft_4 rfl ?_
      refine E_bp (nI 12) dX11_layersLeft_5 (by decide) ?_
      refine E_cN_ge (a := 12) (b := 12) (tgt := 41) dX11_layersLeft_7 (by decide) (by decide) (by decide) (fun c7 => ?_) (fun c7 => absurd c7 (by omega))
      refine E_iload_n dX11_layersLeft_41 rfl ?_
      exact E_iret dX11_layersLeft_42 rfl (hQ)
    · have b := hB.1 i hi
      refine E_iload_n dX11_layersLeft_4 rfl ?_
      refine E_bp (nI 12) dX11_layersLeft_5 (by decide) ?_
      refine E_cN_ge (a := i) (b := 12) (tgt := 41) dX11_layersLeft_7 (by omega) (by decide) (by decide) (fun c7 => absurd c7 (by omega)) (fun c7 => ?_)
      refine E_iload_n dX11_layersLeft_10 rfl ?_
      refine E_aload_n dX11_layersLeft_11 rfl ?_
      refine E_getR dX11_layersLeft_12 f_X11_11 rfl (Nat.lt_of_lt_of_le (by decide) hN) rfl (hR _ _ _ rfl) ?_
      refine E_iload_n dX11_layersLeft_15 rfl ?_
      refine E_aaldN dX11_layersLeft_16 rfl (Nat.lt_of_lt_of_le (by decide) hN) (by first | assumption | omega) (hR _ _ _ (RT1 i (by first | assumption | omega))) ?_
      refine E_getI dX11_layersLeft_17 f_X11_187 (LYw i (by first | assumption | omega)).1 (by first | assumption | omega) rfl ?_
      refine E.top ((hX.1 i (by first | assumption | omega)).1) ?_
      refine E_aload_n dX11_layersLeft_20 rfl ?_
      refine E_getR dX11_layersLeft_21 f_X11_11 rfl (Nat.lt_of_lt_of_le (by decide) hN) rfl (hR _ _ _ rfl) ?_
      refine E_iload_n dX11_layersLeft_24 rfl ?_
      refine E_aaldN dX11_layersLeft_25 rfl (Nat.lt_of_lt_of_le (by decide) hN) (by first | assumption | omega) (hR _ _ _ (RT1 i (by first | assumption | omega))) ?_
      refine E_getR dX11_layersLeft_26 f_X11_146 (LYw i (by first | assumption | omega)).1 (by first | assumption | omega) rfl (hR _ _ _ (RTw i (by first | assumption | omega)).2.2.1) ?_
      refine E_getI dX11_layersLeft_29 f_X11_190 (LYw i (by first | assumption | omega)).2.2.2.1 (by first | assumption | omega) rfl ?_
      refine E.top ((hX.1 i (by first | assumption | omega)).2.2.2.1 3 (by decide)) ?_
      refine E_isub dX11_layersLeft_32 ?_
      refine E.top (pk_sub (a := σ 0 i 0) (b := σ 3 i 3) (by omega)) ?_
      refine E_iadd dX11_layersLeft_33 ?_
      refine E.top (nI_add (sumS (fun k => σ 0 k 0 - σ 3 k 3) i) ((σ 0 i 0) - (σ 3 i 3))) ?_
      refine E_istore_n dX11_layersLeft_34 (Nat.le_of_ble_eq_true rfl) ?_
      refine E_incN dX11_layersLeft_35 rfl ?_
      refine E_goto (tgt := 4) dX11_layersLeft_38 (by decide) ?_
      exact ih
  refine E_ic (nI 0) dX11_layersLeft_0 (by decide) ?_
  refine E_istore_n dX11_layersLeft_1 (Nat.le_of_ble_eq_true rfl) ?_
  refine E_ic (nI 0) dX11_layersLeft_2 (by decide) ?_
  refine E_istore_n dX11_layersLeft_3 (Nat.le_of_ble_eq_true rfl) ?_
  exact L 0 (by omega)
set_option maxRecDepth 100000 in
set_option maxHeartbeats 2000000 in
theorem m_setOf48 (hB : BND σ) (hM : MR σ I) (hN : 152 ≤ n) (hR : RS R) (hQ : Q (some (.int (bitS (fun k => σ 3 k 5) 12))) n I J R) : E g mX12_setOf (d + 2) 0 0 0 (ent 4 [.ref 114, .int (nI 48)]) [] n I J R Q := by
  have L : ∀ i, i ≤ 12 → E g mX12_setOf (d + 2) 0 0 4 [.ref 114, .int (nI 48), .int (bitS (fun k => σ 3 k 5) i), .int (nI i)] [] n I J R Q := by
    refine loopU 12 ?_ (fun i hi ih => ?_)
    · refine E_iload_n dX12_setOf_4 rfl ?_
      refine E_bp (nI 12) dX12_setOf_5 (by decide) ?_
      refine E_cN_ge (a := 12) (b := 12) (tgt := 42) dX12_setOf_7 (by decide) (by decide) (by decide) (fun c7 => ?_) (fun c7 => absurd c7 (by omega))
      refine E_iload_n dX12_setOf_42 rfl ?_
      exact E_iret dX12_setOf_43 rfl (hQ)
    · have b := hB.1 i hi
      have b5 := b.2.2.1.2.2.2.2.1
      have b6 := b.2.2.1.2.2.2.2.2.1
      have bz := hB.2.2.2.2.2.2 i hi
      refine E_iload_n dX12_setOf_4 rfl ?_
      refine E_bp (nI 12) dX12_setOf_5 (by decide) ?_
      refine E_cN_ge (a := i) (b := 12) (tgt := 42) dX12_setOf_7 (by omega) (by decide) (by decide) (fun c7 => absurd c7 (by omega)) (fun c7 => ?_)
      refine E_aload_n dX12_setOf_10 rfl ?_
      refine E_iload_n dX12_setOf_11 rfl ?_
      refine E_callV (As := [_]) (ci := 11) (kc' := 0) (ks' := 0) (kc := 0) (ks := 0) dX12_setOf_12 ok_X12_isTold w_X12_340 i_X12_isTold s_X12_isTold rfl (by decide) rfl (Nat.lt_of_lt_of_le (by decide) hN) rfl rfl rfl (Nat.le_of_ble_eq_true rfl) (Nat.le_of_ble_eq_true rfl) (Nat.le_refl _) (M_isTold (d := d) hB hM hN hR (fun j hj e p => ?_) (fun z => ?_))
      · have e := (nI_eq (by omega) (by omega)).mp e
        subst e
        refine E_zN_eq (a := 1) (tgt := 36) dX12_setOf_15 (by decide) (by decide) (fun c15 => absurd c15 (by omega)) (fun c15 => ?_)
        refine E_aload_n dX12_setOf_18 rfl ?_
        refine E_getR dX12_setOf_19 f_X12_7 rfl (Nat.lt_of_lt_of_le (by decide) hN) rfl (hR _ _ _ rfl) ?_
        refine E_iload_n dX12_setOf_22 rfl ?_
        refine E_iload_n dX12_setOf_23 rfl ?_
        refine E_iadd dX12_setOf_24 ?_
        refine E.top (nI_add 48 i) ?_
        refine E_ialdN dX12_setOf_25 rfl (Nat.lt_of_lt_of_le (by decide) hN) (by first | assumption | omega) ?_
        refine E.top ((hM.2.1.1 i (by first | assumption | omega)).2.2.2.2.1) ?_
        refine E_ic (nI 1) dX12_setOf_26 (by decide) ?_
        refine E_cN_ne (a := σ 3 i 5) (b := 1) (tgt := 36) dX12_setOf_27 (by omega) (by decide) (by decide) (fun c27 => ?_) (fun c27 => ?_)
        · refine E_incN dX12_setOf_36 rfl ?_
          refine E_goto (tgt := 4) dX12_setOf_39 (by decide) ?_
          rw [bitS_f (by omega)] at ih
          exact ih
        · refine E_iload_n dX12_setOf_30 rfl ?_
          refine E_ic (nI 1) dX12_setOf_31 (by decide) ?_
          refine E_iload_n dX12_setOf_32 rfl ?_
          refine E_ishl dX12_setOf_33 ?_
          refine E_ior dX12_setOf_34 ?_
          refine E_istore_n dX12_setOf_35 (Nat.le_of_ble_eq_true rfl) ?_
          refine E_incN dX12_setOf_36 rfl ?_
          refine E_goto (tgt := 4) dX12_setOf_39 (by decide) ?_
          rw [bitS_t (by omega)] at ih
          exact ih
      · have z0 : σ 0 i 0 = 0 := Nat.eq_zero_of_not_pos (fun y => z (tk_of hi y))
        refine E_zN_eq (a := 0) (tgt := 36) dX12_setOf_15 (by decide) (by decide) (fun c15 => ?_) (fun c15 => absurd c15 (by omega))
        refine E_incN dX12_setOf_36 rfl ?_
        refine E_goto (tgt := 4) dX12_setOf_39 (by decide) ?_
        rw [bitS_f (by omega)] at ih
        exact ih
  refine E_ic (nI 0) dX12_setOf_0 (by decide) ?_
  refine E_istore_n dX12_setOf_1 (Nat.le_of_ble_eq_true rfl) ?_
  refine E_ic (nI 0) dX12_setOf_2 (by decide) ?_
  refine E_istore_n dX12_setOf_3 (Nat.le_of_ble_eq_true rfl) ?_
  exact L 0 (by omega)
set_option maxRecDepth 100000 in
set_option maxHeartbeats 2000000 in
theorem m_setOf36 (hB : BND σ) (hM : MR σ I) (hN : 152 ≤ n) (hR : RS R) (hQ : Q (some (.int (bitS (fun k => σ 3 k 4) 12))) n I J R) : E g mX12_setOf (d + 2) 0 0 0 (ent 4 [.ref 114, .int (nI 36)]) [] n I J R Q := by
  have L : ∀ i, i ≤ 12 → E g mX12_setOf (d + 2) 0 0 4 [.ref 114, .int (nI 36), .int (bitS (fun k => σ 3 k 4) i), .int (nI i)] [] n I J R Q := by
    refine loopU 12 ?_ (fun i hi ih => ?_)
    · refine E_iload_n dX12_setOf_4 rfl ?_
      refine E_bp (nI 12) dX12_setOf_5 (by decide) ?_
      refine E_cN_ge (a := 12) (b := 12) (tgt := 42) dX12_setOf_7 (by decide) (by decide) (by decide) (fun c7 => ?_) (fun c7 => absurd c7 (by omega))
      refine E_iload_n dX12_setOf_42 rfl ?_
      exact E_iret dX12_setOf_43 rfl (hQ)
    · have b := hB.1 i hi
      have b5 := b.2.2.1.2.2.2.2.1
      have b6 := b.2.2.1.2.2.2.2.2.1
      have bz := hB.2.2.2.2.2.2 i hi
      refine E_iload_n dX12_setOf_4 rfl ?_
      refine E_bp (nI 12) dX12_setOf_5 (by decide) ?_
      refine E_cN_ge (a := i) (b := 12) (tgt := 42) dX12_setOf_7 (by omega) (by decide) (by decide) (fun c7 => absurd c7 (by omega)) (fun c7 => ?_)
      refine E_aload_n dX12_setOf_10 rfl ?_
      refine E_iload_n dX12_setOf_11 rfl ?_
      refine E_callV (As := [_]) (ci := 11) (kc' := 0) (ks' := 0) (kc := 0) (ks := 0) dX12_setOf_12 ok_X12_isTold w_X12_340 i_X12_isTold s_X12_isTold rfl (by decide) rfl (Nat.lt_of_lt_of_le (by decide) hN) rfl rfl rfl (Nat.le_of_ble_eq_true rfl) (Nat.le_of_ble_eq_true rfl) (Nat.le_refl _) (M_isTold (d := d) hB hM hN hR (fun j hj e p => ?_) (fun z => ?_))
      · have e := (nI_eq (by omega) (by omega)).mp e
        subst e
        refine E_zN_eq (a := 1) (tgt := 36) dX12_setOf_15 (by decide) (by decide) (fun c15 => absurd c15 (by omega)) (fun c15 => ?_)
        refine E_aload_n dX12_setOf_18 rfl ?_
        refine E_getR dX12_setOf_19 f_X12_7 rfl (Nat.lt_of_lt_of_le (by decide) hN) rfl (hR _ _ _ rfl) ?_
        refine E_iload_n dX12_setOf_22 rfl ?_
        refine E_iload_n dX12_setOf_23 rfl ?_
        refine E_iadd dX12_setOf_24 ?_
        refine E.top (nI_add 36 i) ?_
        refine E_ialdN dX12_setOf_25 rfl (Nat.lt_of_lt_of_le (by decide) hN) (by first | assumption | omega) ?_
        refine E.top ((hM.2.1.1 i (by first | assumption | omega)).2.2.2.1) ?_
        refine E_ic (nI 1) dX12_setOf_26 (by decide) ?_
        refine E_cN_ne (a := σ 3 i 4) (b := 1) (tgt := 36) dX12_setOf_27 (by omega) (by decide) (by decide) (fun c27 => ?_) (fun c27 => ?_)
        · refine E_incN dX12_setOf_36 rfl ?_
          refine E_goto (tgt := 4) dX12_setOf_39 (by decide) ?_
          rw [bitS_f (by omega)] at ih
          exact ih
        · refine E_iload_n dX12_setOf_30 rfl ?_
          refine E_ic (nI 1) dX12_setOf_31 (by decide) ?_
          refine E_iload_n dX12_setOf_32 rfl ?_
          refine E_ishl dX12_setOf_33 ?_
          refine E_ior dX12_setOf_34 ?_
          refine E_istore_n dX12_setOf_35 (Nat.le_of_ble_eq_true rfl) ?_
          refine E_incN dX12_setOf_36 rfl ?_
          refine E_goto (tgt := 4) dX12_setOf_39 (by decide) ?_
          rw [bitS_t (by omega)] at ih
          exact ih
      · have z0 : σ 0 i 0 = 0 := Nat.eq_zero_of_not_pos (fun y => z (tk_of hi y))
        refine E_zN_eq (a := 0) (tgt := 36) dX12_setOf_15 (by decide) (by decide) (fun c15 => ?_) (fun c15 => absurd c15 (by omega))
        refine E_incN dX12_setOf_36 rfl ?_
        refine E_goto (tgt := 4) dX12_setOf_39 (by decide) ?_
        rw [bitS_f (by omega)] at ih
        exact ih
  refine E_ic (nI 0) dX12_setOf_0 (by decide) ?_
  refine E_istore_n dX12_setOf_1 (Nat.le_of_ble_eq_true rfl) ?_
  refine E_ic (nI 0) dX12_setOf_2 (by decide) ?_
  refine E_istore_n dX12_setOf_3 (Nat.le_of_ble_eq_true rfl) ?_
  exact L 0 (by omega)
def cI (ρ : Int32) (σ : ST) (w : Int32) : Int32 := if w = nI 0 then nI (σ 4 1 0) else if w = nI 1 then bitS (fun k => min 1 (σ 0 k 0)) 12 else if w = nI 2 then bitS (fun k => σ 3 k 5) 12 else if w = nI 3 then bitS (fun k => σ 3 k 4) 12 else if w = nI 4 then nI (σ 4 0 0) else if w = nI 5 then ρ else if w = nI 6 then nI (σ 9 0 0) else if w = nI 7 then nI (σ 4 2 0) else if w = nI 8 then nI (sumS (fun k => σ 0 k 0 - σ 3 k 3) 12) else -1
theorem cI_no (ρ : Int32) (σ : ST) {w : Int32} (h : w < 0 ∨ nI 9 ≤ w) : cI ρ σ w = -1 := by
  have key : ∀ j, j < 9 → w ≠ nI j := by
    rintro j hj rfl
    rcases h with h | h
    · exact nI_pos (by omega) h
    · exact nI_ge hj (by decide) h
  unfold cI
  rw [if_neg (key 0 (by decide)), if_neg (key 1 (by decide)), if_neg (key 2 (by decide)), if_neg (key 3 (by decide)), if_neg (key 4 (by decide)), if_neg (key 5 (by decide)), if_neg (key 6 (by decide)), if_neg (key 7 (by decide)), if_neg (key 8 (by decide))]
set_option maxRecDepth 100000 in
set_option maxHeartbeats 2000000 in
theorem x_count {w ρ : Int32} (hB : BND σ) (hX : XR σ n I R) (h5 : I 3 7 = ρ) (hQ : Q (some (.int (cI ρ σ w))) n I J R) : E g mX11_count (d + 1) 0 0 0 (ent 2 [.ref 0, .int w]) [] n I J R Q := by
  have hN := hX.2.2.2.1.n.1
  have hR := hX.2.2.2.1.1
  rcases i32_ix w 9 (by decide) with hw0 | ⟨c, hc, rfl⟩
  · rw [cI_no _ σ hw0] at hQ
    refine E_iload_n dX11_count_0 rfl ?_
    refine E_tout (tgt := 100) dX11_count_1 (tout (m := 9) (by decide) hw0) (by decide) ?_
    refine E_ic (-1) dX11_count_100 (by decide) ?_
    exact E_iret dX11_count_101 rfl (hQ)
  · match c, hc with
    | 0, _ =>
      refine E_iload_n dX11_count_0 rfl ?_
      refine E_tin (tgt := 52) dX11_count_1 (by decide) (by decide) rfl (by decide) ?_
      refine E_aload_n dX11_count_52 rfl ?_
      refine E_getI dX11_count_53 f_X11_89 rfl (Nat.lt_of_lt_of_le (by decide) hN) rfl ?_
      refine E.top (hX.2.1.2.2.1) ?_
      exact E_iret dX11_count_56 rfl (hQ)
    | 1, _ =>
      refine E_iload_n dX11_count_0 rfl ?_
      refine E_tin (tgt := 57) dX11_count_1 (by decide) (by decide) rfl (by decide) ?_
      refine E_aload_n dX11_count_57 rfl ?_
      refine E_callV (As := []) (ci := 10) (kc' := 0) (ks' := 0) (kc := 0) (ks := 0) dX11_count_58 ok_X11_toldBits w_X11_317 i_X11_toldBits s_X11_toldBits rfl (by decide) rfl (Nat.lt_of_lt_of_le (by decide) hN) rfl rfl rfl (Nat.le_of_ble_eq_true rfl) (Nat.le_of_ble_eq_true rfl) (Nat.le_refl _) (x_toldBits (d := d) hB hX ?_)
      exact E_iret dX11_count_61 rfl (hQ)
    | 2, _ =>
      refine E_iload_n dX11_count_0 rfl ?_
      refine E_tin (tgt := 62) dX11_count_1 (by decide) (by decide) rfl (by decide) ?_
      refine E_aload_n dX11_count_62 rfl ?_
      refine E_callV (As := []) (ci := 10) (kc' := 0) (ks' := 0) (kc := 0) (ks := 0) dX11_count_63 ok_X11_brokenBits w_X11_320 i_X11_brokenBits s_X11_brokenBits rfl (by decide) rfl (Nat.lt_of_lt_of_le (by decide) hN) rfl rfl rfl (Nat.le_of_ble_eq_true rfl) (Nat.le_of_ble_eq_true rfl) (Nat.le_refl _) (x_brokenBits (d := d) hB hX ?_)
      exact E_iret dX11_count_66 rfl (hQ)
    | 3, _ =>
      refine E_iload_n dX11_count_0 rfl ?_
      refine E_tin (tgt := 67) dX11_count_1 (by decide) (by decide) rfl (by decide) ?_
      refine E_aload_n dX11_count_67 rfl ?_
      refine E_callV (As := []) (ci := 10) (kc' := 0) (ks' := 0) (kc := 0) (ks := 0) dX11_count_68 ok_X11_openBits w_X11_323 i_X11_openBits s_X11_openBits rfl (by decide) rfl (Nat.lt_of_lt_of_le (by decide) hN) rfl rfl rfl (Nat.le_of_ble_eq_true rfl) (Nat.le_of_ble_eq_true rfl) (Nat.le_refl _) (x_openBits (d := d) hB hX ?_)
      exact E_iret dX11_count_71 rfl (hQ)
    | 4, _ =>
      refine E_iload_n dX11_count_0 rfl ?_
      refine E_tin (tgt := 72) dX11_count_1 (by decide) (by decide) rfl (by decide) ?_
      refine E_aload_n dX11_count_72 rfl ?_
      refine E_getI dX11_count_73 f_X11_86 rfl (Nat.lt_of_lt_of_le (by decide) hN) rfl ?_
      refine E.top (hX.2.1.2.1) ?_
      exact E_iret dX11_count_76 rfl (hQ)
    | 5, _ =>
      refine E_iload_n dX11_count_0 rfl ?_
      refine E_tin (tgt := 77) dX11_count_1 (by decide) (by decide) rfl (by decide) ?_
      refine E_aload_n dX11_count_77 rfl ?_
      refine E_getR dX11_count_78 f_X11_26 rfl (Nat.lt_of_lt_of_le (by decide) hN) rfl (hR _ _ _ rfl) ?_
      refine E_getI dX11_count_81 f_X11_326 rfl (Nat.lt_of_lt_of_le (by decide) hN) rfl ?_
      refine E.top (h5) ?_
      exact E_iret dX11_count_84 rfl (hQ)
    | 6, _ =>
      refine E_iload_n dX11_count_0 rfl ?_
      refine E_tin (tgt := 85) dX11_count_1 (by decide) (by decide) rfl (by decide) ?_
      refine E_aload_n dX11_count_85 rfl ?_
      refine E_getI dX11_count_86 f_X11_19 rfl (Nat.lt_of_lt_of_le (by decide) hN) rfl ?_
      refine E.top (hX.2.1.1) ?_
      exact E_iret dX11_count_89 rfl (hQ)
    | 7, _ =>
      refine E_iload_n dX11_count_0 rfl ?_
      refine E_tin (tgt := 90) dX11_count_1 (by decide) (by decide) rfl (by decide) ?_
      refine E_aload_n dX11_count_90 rfl ?_
      refine E_getI dX11_count_91 f_X11_92 rfl (Nat.lt_of_lt_of_le (by decide) hN) rfl ?_
      refine E.top (hX.2.1.2.2.2.1) ?_
      exact E_iret dX11_count_94 rfl (hQ)
    | 8, _ =>
      refine E_iload_n dX11_count_0 rfl ?_
      refine E_tin (tgt := 95) dX11_count_1 (by decide) (by decide) rfl (by decide) ?_
      refine E_aload_n dX11_count_95 rfl ?_
      refine E_callV (As := []) (ci := 10) (kc' := 0) (ks' := 0) (kc := 0) (ks := 0) dX11_count_96 ok_X11_layersLeft w_X11_329 i_X11_layersLeft s_X11_layersLeft rfl (by decide) rfl (Nat.lt_of_lt_of_le (by decide) hN) rfl rfl rfl (Nat.le_of_ble_eq_true rfl) (Nat.le_of_ble_eq_true rfl) (Nat.le_refl _) (x_layersLeft (d := d) hB hX ?_)
      exact E_iret dX11_count_99 rfl (hQ)
    | c + 9, h => exact absurd h (by omega)
set_option maxRecDepth 100000 in
set_option maxHeartbeats 2000000 in
theorem m_count {w ρ : Int32} (hB : BND σ) (hM : MR σ I) (hN : 152 ≤ n) (hR : RS R) (h5 : I 114 16 = ρ) (hQ : Q (some (.int (cI ρ σ w))) n I J R) : E g mX12_count (d + 3) 0 0 0 (ent 4 [.ref 114, .int w]) [] n I J R Q := by
  rcases i32_ix w 9 (by decide) with hw0 | ⟨c, hc, rfl⟩
  · rw [cI_no _ σ hw0] at hQ
    refine E_ic (nI 0) dX12_count_0 (by decide) ?_
    refine E_istore_n dX12_count_1 (Nat.le_of_ble_eq_true rfl) ?_
    refine E_iload_n dX12_count_2 rfl ?_
    refine E_tout (tgt := 162) dX12_count_3 (tout (m := 9) (by decide) hw0) (by decide) ?_
    refine E_ic (-1) dX12_count_162 (by decide) ?_
    exact E_iret dX12_count_163 rfl (hQ)
  · match c, hc with
    | 0, _ =>
      refine E_ic (nI 0) dX12_count_0 (by decide) ?_
      refine E_istore_n dX12_count_1 (Nat.le_of_ble_eq_true rfl) ?_
      refine E_iload_n dX12_count_2 rfl ?_
      refine E_tin (tgt := 52) dX12_count_3 (by decide) (by decide) rfl (by decide) ?_
      refine E_aload_n dX12_count_52 rfl ?_
      refine E_getR dX12_count_53 f_X12_7 rfl (Nat.lt_of_lt_of_le (by decide) hN) rfl (hR _ _ _ rfl) ?_
      refine E_bp (nI 73) dX12_count_56 (by decide) ?_
      refine E_ialdN dX12_count_58 rfl (Nat.lt_of_lt_of_le (by decide) hN) (by decide) ?_
      refine E.top (hM.2.1.2.2.1) ?_
      exact E_iret dX12_count_59 rfl (hQ)
    | 1, _ =>
      have L : ∀ i, i ≤ 12 → E g mX12_count (d + 3) 0 0 62 [.ref 114, .int (nI 1), .int (bitS (fun k => min 1 (σ 0 k 0)) i), .int (nI i)] [] n I J R Q := by
        refine loopU 12 ?_ (fun i hi ih => ?_)
        · refine E_iload_n dX12_count_62 rfl ?_
          refine E_bp (nI 12) dX12_count_63 (by decide) ?_
          refine E_cN_ge (a := 12) (b := 12) (tgt := 88) dX12_count_65 (by decide) (by decide) (by decide) (fun c65 => ?_) (fun c65 => absurd c65 (by omega))
          refine E_iload_n dX12_count_88 rfl ?_
          exact E_iret dX12_count_89 rfl (hQ)
        · refine E_iload_n dX12_count_62 rfl ?_
          refine E_bp (nI 12) dX12_count_63 (by decide) ?_
          refine E_cN_ge (a := i) (b := 12) (tgt := 88) dX12_count_65 (by omega) (by decide) (by decide) (fun c65 => absurd c65 (by omega)) (fun c65 => ?_)
          refine E_aload_n dX12_count_68 rfl ?_
          refine E_iload_n dX12_count_69 rfl ?_
          refine E_callV (As := [_]) (ci := 11) (kc' := 0) (ks' := 0) (kc := 0) (ks := 0) dX12_count_70 ok_X12_isTold w_X12_340 i_X12_isTold s_X12_isTold rfl (by decide) rfl (Nat.lt_of_lt_of_le (by decide) hN) rfl rfl rfl (Nat.le_of_ble_eq_true rfl) (Nat.le_of_ble_eq_true rfl) (Nat.le_refl _) (M_isTold (d := d + 1) hB hM hN hR (fun j hj e p => ?_) (fun z => ?_))
          · have e := (nI_eq (by omega) (by omega)).mp e
            subst e
            refine E_zN_eq (a := 1) (tgt := 82) dX12_count_73 (by decide) (by decide) (fun c73 => absurd c73 (by omega)) (fun c73 => ?_)
            refine E_iload_n dX12_count_76 rfl ?_
            refine E_ic (nI 1) dX12_count_77 (by decide) ?_
            refine E_iload_n dX12_count_78 rfl ?_
            refine E_ishl dX12_count_79 ?_
            refine E_ior dX12_count_80 ?_
            refine E_istore_n dX12_count_81 (Nat.le_of_ble_eq_true rfl) ?_
            refine E_incN dX12_count_82 rfl ?_
            refine E_goto (tgt := 62) dX12_count_85 (by decide) ?_
            rw [bitS_t (by omega)] at ih
            exact ih
          · have z0 : σ 0 i 0 = 0 := Nat.eq_zero_of_not_pos (fun y => z (tk_of hi y))
            refine E_zN_eq (a := 0) (tgt := 82) dX12_count_73 (by decide) (by decide) (fun c73 => ?_) (fun c73 => absurd c73 (by omega))
            refine E_incN dX12_count_82 rfl ?_
            refine E_goto (tgt := 62) dX12_count_85 (by decide) ?_
            rw [bitS_f (by omega)] at ih
            exact ih
      refine E_ic (nI 0) dX12_count_0 (by decide) ?_
      refine E_istore_n dX12_count_1 (Nat.le_of_ble_eq_true rfl) ?_
      refine E_iload_n dX12_count_2 rfl ?_
      refine E_tin (tgt := 60) dX12_count_3 (by decide) (by decide) rfl (by decide) ?_
      refine E_ic (nI 0) dX12_count_60 (by decide) ?_
      refine E_istore_n dX12_count_61 (Nat.le_of_ble_eq_true rfl) ?_
      exact L 0 (by omega)
    | 2, _ =>
      refine E_ic (nI 0) dX12_count_0 (by decide) ?_
      refine E_istore_n dX12_count_1 (Nat.le_of_ble_eq_true rfl) ?_
      refine E_iload_n dX12_count_2 rfl ?_
      refine E_tin (tgt := 90) dX12_count_3 (by decide) (by decide) rfl (by decide) ?_
      refine E_aload_n dX12_count_90 rfl ?_
      refine E_bp (nI 48) dX12_count_91 (by decide) ?_
      refine E_callV (As := [_]) (ci := 11) (kc' := 0) (ks' := 0) (kc := 0) (ks := 0) dX12_count_93 ok_X12_setOf w_X12_426 i_X12_setOf s_X12_setOf rfl (by decide) rfl (Nat.lt_of_lt_of_le (by decide) hN) rfl rfl rfl (Nat.le_of_ble_eq_true rfl) (Nat.le_of_ble_eq_true rfl) (Nat.le_refl _) (m_setOf48 (d := d) hB hM hN hR ?_)
      exact E_iret dX12_count_96 rfl (hQ)
    | 3, _ =>
      refine E_ic (nI 0) dX12_count_0 (by decide) ?_
      refine E_istore_n dX12_count_1 (Nat.le_of_ble_eq_true rfl) ?_
      refine E_iload_n dX12_count_2 rfl ?_
      refine E_tin (tgt := 97) dX12_count_3 (by decide) (by decide) rfl (by decide) ?_
      refine E_aload_n dX12_count_97 rfl ?_
      refine E_bp (nI 36) dX12_count_98 (by decide) ?_
      refine E_callV (As := [_]) (ci := 11) (kc' := 0) (ks' := 0) (kc := 0) (ks := 0) dX12_count_100 ok_X12_setOf w_X12_426 i_X12_setOf s_X12_setOf rfl (by decide) rfl (Nat.lt_of_lt_of_le (by decide) hN) rfl rfl rfl (Nat.le_of_ble_eq_true rfl) (Nat.le_of_ble_eq_true rfl) (Nat.le_refl _) (m_setOf36 (d := d) hB hM hN hR ?_)
      exact E_iret dX12_count_103 rfl (hQ)
    | 4, _ =>
      refine E_ic (nI 0) dX12_count_0 (by decide) ?_
      refine E_istore_n dX12_count_1 (Nat.le_of_ble_eq_true rfl) ?_
      refine E_iload_n dX12_count_2 rfl ?_
      refine E_tin (tgt := 104) dX12_count_3 (by decide) (by decide) rfl (by decide) ?_
      refine E_aload_n dX12_count_104 rfl ?_
      refine E_getR dX12_count_105 f_X12_7 rfl (Nat.lt_of_lt_of_le (by decide) hN) rfl (hR _ _ _ rfl) ?_
      refine E_bp (nI 72) dX12_count_108 (by decide) ?_
      refine E_ialdN dX12_count_110 rfl (Nat.lt_of_lt_of_le (by decide) hN) (by decide) ?_
      refine E.top (hM.2.1.2.1) ?_
      exact E_iret dX12_count_111 rfl (hQ)
    | 5, _ =>
      refine E_ic (nI 0) dX12_count_0 (by decide) ?_
      refine E_istore_n dX12_count_1 (Nat.le_of_ble_eq_true rfl) ?_
      refine E_iload_n dX12_count_2 rfl ?_
      refine E_tin (tgt := 112) dX12_count_3 (by decide) (by decide) rfl (by decide) ?_
      refine E_aload_n dX12_count_112 rfl ?_
      refine E_getI dX12_count_113 f_X12_231 rfl (Nat.lt_of_lt_of_le (by decide) hN) rfl ?_
      refine E.top (h5) ?_
      exact E_iret dX12_count_116 rfl (hQ)
    | 6, _ =>
      refine E_ic (nI 0) dX12_count_0 (by decide) ?_
      refine E_istore_n dX12_count_1 (Nat.le_of_ble_eq_true rfl) ?_
      refine E_iload_n dX12_count_2 rfl ?_
      refine E_tin (tgt := 117) dX12_count_3 (by decide) (by decide) rfl (by decide) ?_
      refine E_aload_n dX12_count_117 rfl ?_
      refine E_getI dX12_count_118 f_X12_128 rfl (Nat.lt_of_lt_of_le (by decide) hN) rfl ?_
      refine E.top (hM.2.2.2.1.1) ?_
      exact E_iret dX12_count_121 rfl (hQ)
    | 7, _ =>
      refine E_ic (nI 0) dX12_count_0 (by decide) ?_
      refine E_istore_n dX12_count_1 (Nat.le_of_ble_eq_true rfl) ?_
      refine E_iload_n dX12_count_2 rfl ?_
      refine E_tin (tgt := 122) dX12_count_3 (by decide) (by decide) rfl (by decide) ?_
      refine E_aload_n dX12_count_122 rfl ?_
      refine E_getR dX12_count_123 f_X12_7 rfl (Nat.lt_of_lt_of_le (by decide) hN) rfl (hR _ _ _ rfl) ?_
      refine E_bp (nI 74) dX12_count_126 (by decide) ?_
      refine E_ialdN dX12_count_128 rfl (Nat.lt_of_lt_of_le (by decide) hN) (by decide) ?_
      refine E.top (hM.2.1.2.2.2) ?_
      exact E_iret dX12_count_129 rfl (hQ)
    | 8, _ =>
      have L : ∀ i, i ≤ 12 → E g mX12_count (d + 3) 0 0 132 [.ref 114, .int (nI 8), .int (nI (sumS (fun k => σ 0 k 0 - σ 3 k 3) i)), .int (nI i)] [] n I J R Q := by
        refine loopU 12 ?_ (fun i hi ih => ?_)
        · refine E_iload_n dX12_count_132 rfl ?_
          refine E_bp (nI 12) dX12_count_133 (by decide) ?_
          refine E_cN_ge (a := 12) (b := 12) (tgt := 160) dX12_count_135 (by decide) (by decide) (by decide) (fun c135 => ?_) (fun c135 => absurd c135 (by omega))
          refine E_iload_n dX12_count_160 rfl ?_
          exact E_iret dX12_count_161 rfl (hQ)
        · have b := hB.1 i hi
          refine E_iload_n dX12_count_132 rfl ?_
          refine E_bp (nI 12) dX12_count_133 (by decide) ?_
          refine E_cN_ge (a := i) (b := 12) (tgt := 160) dX12_count_135 (by omega) (by decide) (by decide) (fun c135 => absurd c135 (by omega)) (fun c135 => ?_)
          refine E_aload_n dX12_count_138 rfl ?_
          refine E_iload_n dX12_count_139 rfl ?_
          refine E_callV (As := [_]) (ci := 11) (kc' := 0) (ks' := 0) (kc := 0) (ks := 0) dX12_count_140 ok_X12_isTold w_X12_340 i_X12_isTold s_X12_isTold rfl (by decide) rfl (Nat.lt_of_lt_of_le (by decide) hN) rfl rfl rfl (Nat.le_of_ble_eq_true rfl) (Nat.le_of_ble_eq_true rfl) (Nat.le_refl _) (M_isTold (d := d + 1) hB hM hN hR (fun j hj e p => ?_) (fun z => ?_))
          · have e := (nI_eq (by omega) (by omega)).mp e
            subst e
            refine E_zN_eq (a := 1) (tgt := 154) dX12_count_143 (by decide) (by decide) (fun c143 => absurd c143 (by omega)) (fun c143 => ?_)
            refine E_iload_n dX12_count_146 rfl ?_
            refine E_aload_n dX12_count_147 rfl ?_
            refine E_iload_n dX12_count_148 rfl ?_
            refine E_callV (As := [_]) (ci := 11) (kc' := 0) (ks' := 0) (kc := 0) (ks := 0) dX12_count_149 ok_X12_leftOf w_X12_286 i_X12_leftOf s_X12_leftOf rfl (by decide) rfl (Nat.lt_of_lt_of_le (by decide) hN) rfl rfl rfl (Nat.le_of_ble_eq_true rfl) (Nat.le_of_ble_eq_true rfl) (Nat.le_refl _) (m_leftOf (d := d + 2) hB hM hN hR hi ?_)
            refine E_iadd dX12_count_152 ?_
            refine E.top (nI_add (sumS (fun k => σ 0 k 0 - σ 3 k 3) i) (σ 0 i 0 - σ 3 i 3)) ?_
            refine E_istore_n dX12_count_153 (Nat.le_of_ble_eq_true rfl) ?_
            refine E_incN dX12_count_154 rfl ?_
            refine E_goto (tgt := 132) dX12_count_157 (by decide) ?_
            exact ih
          · have z0 : σ 0 i 0 = 0 := Nat.eq_zero_of_not_pos (fun y => z (tk_of hi y))
            refine E_zN_eq (a := 0) (tgt := 154) dX12_count_143 (by decide) (by decide) (fun c143 => ?_) (fun c143 => absurd c143 (by omega))
            refine E_incN dX12_count_154 rfl ?_
            refine E_goto (tgt := 132) dX12_count_157 (by decide) ?_
            rw [show sumS (fun k => σ 0 k 0 - σ 3 k 3) (i + 1) = sumS (fun k => σ 0 k 0 - σ 3 k 3) i from by show sumS (fun k => σ 0 k 0 - σ 3 k 3) i + (σ 0 i 0 - σ 3 i 3) = _; omega] at ih
            exact ih
      refine E_ic (nI 0) dX12_count_0 (by decide) ?_
      refine E_istore_n dX12_count_1 (Nat.le_of_ble_eq_true rfl) ?_
      refine E_iload_n dX12_count_2 rfl ?_
      refine E_tin (tgt := 130) dX12_count_3 (by decide) (by decide) rfl (by decide) ?_
      refine E_ic (nI 0) dX12_count_130 (by decide) ?_
      refine E_istore_n dX12_count_131 (Nat.le_of_ble_eq_true rfl) ?_
      exact L 0 (by omega)
    | c + 9, h => exact absurd h (by omega)
theorem pair_count {LR : IM → Prop} (hLR : LRok LR) (h5 : ∀ I, LR I → I 3 7 = I 114 16) {vl : Value → Prop} (hv : ∀ x : Int32, vl (.int x)) (w : Int32) (g : GL) (n : Nat) (I : IM) (J : JM) (R : RM) (h : INV LR n I J R) : ∃ (r : Value) (P : Nat → IM → JM → RM → Prop) (kx sx : Nat), vl r ∧ kx ≤ 153 - n ∧ sx ≤ 49500 * (153 - n) ∧
  (∀ Q : PQ, (∀ n' I' J' R', 152 ≤ n' → n' ≤ 153 → kx + (153 - n') ≤ 153 - n → sx + 49500 * (153 - n') ≤ 49500 * (153 - n) → P n' I' J' R' → Q (some r) n' I' J' R') → E g mX11_count 900 kx sx 0 (ent 2 [.ref 0, .int w]) [] n I J R Q) ∧
  ∀ n' I' J' R', P n' I' J' R' → ∀ Q : PQ, (∀ I2 J2 R2, INV LR n' I2 J2 R2 → Q (some r) n' I2 J2 R2) → E g mX12_count 900 0 0 0 (ent 4 [.ref 114, .int w]) [] n' I' J' R' Q := by
  obtain ⟨σ, hB, hX, hM, hl⟩ := h
  have hn := hX.2.2.2.1.n
  refine ⟨.int (cI (I 3 7) σ w), fun n' I' _ R' => n' = n ∧ I' = I ∧ R' = R, 0, 0, hv _, Nat.zero_le _, Nat.zero_le _, fun Q hQ => ?_, ?_⟩
  · exact x_count (d := 899) hB hX rfl (hQ n I J R hn.1 hn.2 (by omega) (by omega) ⟨rfl, rfl, rfl⟩)
  · rintro n' I' J' R' ⟨rfl, rfl, rfl⟩ Q hQ
    exact m_count (d := 897) hB hM hn.1 hX.2.2.2.1.1 (h5 _ hl).symm (hQ _ _ _ ⟨σ, hB, hX, hM, hl⟩)
end PCount
