/-! ===== count, who, check ===== -/
/-- the bits of those below m of whom it holds -/
def bitS (p : Nat → Nat) : Nat → Int32
  | 0 => nI 0
  | k + 1 => if 0 < p k then bitS p k ||| (nI 1 <<< (nI k &&& 31)) else bitS p k
def sumS (p : Nat → Nat) : Nat → Nat
  | 0 => 0
  | k + 1 => sumS p k + p k
theorem bitS_t {p : Nat → Nat} {k : Nat} (h : 0 < p k) : bitS p (k + 1) = bitS p k ||| (nI 1 <<< (nI k &&& 31)) := if_pos h
theorem bitS_f {p : Nat → Nat} {k : Nat} (h : p k = 0) : bitS p (k + 1) = bitS p k := if_neg (by omega)
theorem or_n0 (x : Int32) : x ||| nI 0 = x := Int32.or_zero
section PCount
variable {g : GL} {d n : Nat} {I : IM} {J : JM} {R : RM} {Q : PQ} {σ : ST}
theorem E.iorz {M : MD} {kc ks pc : Nat} {ls st : List Value} {x : Int32} (hd : decode M.2.1 pc = .ok (.ior, 1)) (k : E g M d kc ks (pc + 1) ls (.int x :: st) n I J R Q) : E g M d kc ks pc ls (.int (nI 0) :: .int x :: st) n I J R Q := E_ior hd (by rw [or_n0]; exact k)
set_option maxRecDepth 100000 in
set_option maxHeartbeats 2000000 in
theorem x_toldBits (hB : BND σ) (hX : XR σ n I R) (hQ : Q (some (.int (bitS (fun k => min 1 (σ 0 k 0)) 12))) n I J R) : E g mX11_toldBits d 0 0 0 (ent 3 [.ref 0]) [] n I J R Q := by
  have hn := hX.2.2.2.1.n
  have hR := hX.2.2.2.1.1
  have L : ∀ i, i ≤ 12 → E g mX11_toldBits d 0 0 4 [.ref 0, .int (bitS (fun k => min 1 (σ 0 k 0)) i), .int (nI i)] [] n I J R Q := by
    refine loopU 12 ?_ (fun i hi ih => ?_)
    · refine E_iload_n dX11_toldBits_4 rfl ?_
      refine E_bp (nI 12) dX11_toldBits_5 (by decide) ?_
      refine E_cN_ge (a := 12) (b := 12) (tgt := 38) dX11_toldBits_7 (by omega) (by omega) (by decide) (fun c7 => ?_) (fun c7 => absurd c7 (by omega))
      refine E_iload_n dX11_toldBits_38 rfl ?_
      exact E_iret dX11_toldBits_39 rfl (hQ)
    · have b := hB.1 i hi
      have b5 := b.2.2.1.2.2.2.2.1
      have b6 := b.2.2.1.2.2.2.2.2.1
      refine E_iload_n dX11_toldBits_4 rfl ?_
      refine E_bp (nI 12) dX11_toldBits_5 (by decide) ?_
      refine E_cN_ge (a := i) (b := 12) (tgt := 38) dX11_toldBits_7 (by omega) (by omega) (by decide) (fun c7 => absurd c7 (by omega)) (fun c7 => ?_)
      refine E_iload_n dX11_toldBits_10 rfl ?_
      refine E_aload_n dX11_toldBits_11 rfl ?_
      refine E_getR dX11_toldBits_12 f_X11_11 rfl (by first | assumption | omega) rfl (hR _ _ _ rfl) ?_
      refine E_iload_n dX11_toldBits_15 rfl ?_
      refine E_aaldN dX11_toldBits_16 rfl (by first | assumption | omega) (by omega) (hR _ _ _ (RT1 i (by omega))) ?_
      refine E_getI dX11_toldBits_17 f_X11_314 (LYw i (by omega)).1 (by first | assumption | omega) rfl ?_
      refine E.top ((hX.1 i (by omega)).2.1) ?_
      refine E_zN_eq (a := min 1 (σ 0 i 0)) (tgt := 29) dX11_toldBits_20 (by omega) (by decide) (fun c20 => ?_) (fun c20 => ?_)
      · refine E_ic (nI 0) dX11_toldBits_29 (by decide) ?_
        first | refine E.iorz dX11_toldBits_30 ?_ | refine E_ior dX11_toldBits_30 ?_
        refine E_istore_n dX11_toldBits_31 (Nat.le_of_ble_eq_true rfl) ?_
        refine E_incN dX11_toldBits_32 rfl ?_
        refine E_goto (tgt := 4) dX11_toldBits_35 (by decide) ?_
        refine E.mask [true, true, true] ?_
        rw [bitS_f (by omega)] at ih
        exact ih
      · refine E_ic (nI 1) dX11_toldBits_23 (by decide) ?_
        refine E_iload_n dX11_toldBits_24 rfl ?_
        refine E_ishl dX11_toldBits_25 ?_
        refine E_goto (tgt := 30) dX11_toldBits_26 (by decide) ?_
        first | refine E.iorz dX11_toldBits_30 ?_ | refine E_ior dX11_toldBits_30 ?_
        refine E_istore_n dX11_toldBits_31 (Nat.le_of_ble_eq_true rfl) ?_
        refine E_incN dX11_toldBits_32 rfl ?_
        refine E_goto (tgt := 4) dX11_toldBits_35 (by decide) ?_
        rw [bitS_t (by omega)] at ih
        exact ih
  refine E_ic (nI 0) dX11_toldBits_0 (by decide) ?_
  refine E_istore_n dX11_toldBits_1 (Nat.le_of_ble_eq_true rfl) ?_
  refine E_ic (nI 0) dX11_toldBits_2 (by decide) ?_
  refine E_istore_n dX11_toldBits_3 (Nat.le_of_ble_eq_true rfl) ?_
  exact L 0 (by omega)
set_option maxRecDepth 100000 in
set_option maxHeartbeats 2000000 in
theorem x_brokenBits (hB : BND σ) (hX : XR σ n I R) (hQ : Q (some (.int (bitS (fun k => σ 3 k 5) 12))) n I J R) : E g mX11_brokenBits d 0 0 0 (ent 3 [.ref 0]) [] n I J R Q := by
  have hn := hX.2.2.2.1.n
  have hR := hX.2.2.2.1.1
  have L : ∀ i, i ≤ 12 → E g mX11_brokenBits d 0 0 4 [.ref 0, .int (bitS (fun k => σ 3 k 5) i), .int (nI i)] [] n I J R Q := by
    refine loopU 12 ?_ (fun i hi ih => ?_)
    · refine E_iload_n dX11_brokenBits_4 rfl ?_
      refine E_bp (nI 12) dX11_brokenBits_5 (by decide) ?_
      refine E_cN_ge (a := 12) (b := 12) (tgt := 41) dX11_brokenBits_7 (by omega) (by omega) (by decide) (fun c7 => ?_) (fun c7 => absurd c7 (by omega))
      refine E_iload_n dX11_brokenBits_41 rfl ?_
      exact E_iret dX11_brokenBits_42 rfl (hQ)
    · have b := hB.1 i hi
      have b5 := b.2.2.1.2.2.2.2.1
      have b6 := b.2.2.1.2.2.2.2.2.1
      refine E_iload_n dX11_brokenBits_4 rfl ?_
      refine E_bp (nI 12) dX11_brokenBits_5 (by decide) ?_
      refine E_cN_ge (a := i) (b := 12) (tgt := 41) dX11_brokenBits_7 (by omega) (by omega) (by decide) (fun c7 => absurd c7 (by omega)) (fun c7 => ?_)
      refine E_iload_n dX11_brokenBits_10 rfl ?_
      refine E_aload_n dX11_brokenBits_11 rfl ?_
      refine E_getR dX11_brokenBits_12 f_X11_11 rfl (by first | assumption | omega) rfl (hR _ _ _ rfl) ?_
      refine E_iload_n dX11_brokenBits_15 rfl ?_
      refine E_aaldN dX11_brokenBits_16 rfl (by first | assumption | omega) (by omega) (hR _ _ _ (RT1 i (by omega))) ?_
      refine E_getR dX11_brokenBits_17 f_X11_146 (LYw i (by omega)).1 (by first | assumption | omega) rfl (hR _ _ _ (RTw i (by omega)).2.2.1) ?_
      refine E_getI dX11_brokenBits_20 f_X11_193 (LYw i (by omega)).2.2.2.1 (by first | assumption | omega) rfl ?_
      refine E.top ((hX.1 i (by omega)).2.2.2.1 5 (by decide)) ?_
      refine E_zN_eq (a := σ 3 i 5) (tgt := 32) dX11_brokenBits_23 (by omega) (by decide) (fun c23 => ?_) (fun c23 => ?_)
      · refine E_ic (nI 0) dX11_brokenBits_32 (by decide) ?_
        first | refine E.iorz dX11_brokenBits_33 ?_ | refine E_ior dX11_brokenBits_33 ?_
        refine E_istore_n dX11_brokenBits_34 (Nat.le_of_ble_eq_true rfl) ?_
        refine E_incN dX11_brokenBits_35 rfl ?_
        refine E_goto (tgt := 4) dX11_brokenBits_38 (by decide) ?_
        refine E.mask [true, true, true] ?_
        rw [bitS_f (by omega)] at ih
        exact ih
      · refine E_ic (nI 1) dX11_brokenBits_26 (by decide) ?_
        refine E_iload_n dX11_brokenBits_27 rfl ?_
        refine E_ishl dX11_brokenBits_28 ?_
        refine E_goto (tgt := 33) dX11_brokenBits_29 (by decide) ?_
        first | refine E.iorz dX11_brokenBits_33 ?_ | refine E_ior dX11_brokenBits_33 ?_
        refine E_istore_n dX11_brokenBits_34 (Nat.le_of_ble_eq_true rfl) ?_
        refine E_incN dX11_brokenBits_35 rfl ?_
        refine E_goto (tgt := 4) dX11_brokenBits_38 (by decide) ?_
        rw [bitS_t (by omega)] at ih
        exact ih
  refine E_ic (nI 0) dX11_brokenBits_0 (by decide) ?_
  refine E_istore_n dX11_brokenBits_1 (Nat.le_of_ble_eq_true rfl) ?_
  refine E_ic (nI 0) dX11_brokenBits_2 (by decide) ?_
  refine E_istore_n dX11_brokenBits_3 (Nat.le_of_ble_eq_true rfl) ?_
  exact L 0 (by omega)
set_option maxRecDepth 100000 in
set_option maxHeartbeats 2000000 in
theorem x_openBits (hB : BND σ) (hX : XR σ n I R) (hQ : Q (some (.int (bitS (fun k => σ 3 k 4) 12))) n I J R) : E g mX11_openBits d 0 0 0 (ent 3 [.ref 0]) [] n I J R Q := by
  have hn := hX.2.2.2.1.n
  have hR := hX.2.2.2.1.1
  have L : ∀ i, i ≤ 12 → E g mX11_openBits d 0 0 4 [.ref 0, .int (bitS (fun k => σ 3 k 4) i), .int (nI i)] [] n I J R Q := by
    refine loopU 12 ?_ (fun i hi ih => ?_)
    · refine E_iload_n dX11_openBits_4 rfl ?_
      refine E_bp (nI 12) dX11_openBits_5 (by decide) ?_
      refine E_cN_ge (a := 12) (b := 12) (tgt := 41) dX11_openBits_7 (by omega) (by omega) (by decide) (fun c7 => ?_) (fun c7 => absurd c7 (by omega))
      refine E_iload_n dX11_openBits_41 rfl ?_
      exact E_iret dX11_openBits_42 rfl (hQ)
    · have b := hB.1 i hi
      have b5 := b.2.2.1.2.2.2.2.1
      have b6 := b.2.2.1.2.2.2.2.2.1
      refine E_iload_n dX11_openBits_4 rfl ?_
      refine E_bp (nI 12) dX11_openBits_5 (by decide) ?_
      refine E_cN_ge (a := i) (b := 12) (tgt := 41) dX11_openBits_7 (by omega) (by omega) (by decide) (fun c7 => absurd c7 (by omega)) (fun c7 => ?_)
      refine E_iload_n dX11_openBits_10 rfl ?_
      refine E_aload_n dX11_openBits_11 rfl ?_
      refine E_getR dX11_openBits_12 f_X11_11 rfl (by first | assumption | omega) rfl (hR _ _ _ rfl) ?_
      refine E_iload_n dX11_openBits_15 rfl ?_
      refine E_aaldN dX11_openBits_16 rfl (by first | assumption | omega) (by omega) (hR _ _ _ (RT1 i (by omega))) ?_
      refine E_getR dX11_openBits_17 f_X11_146 (LYw i (by omega)).1 (by first | assumption | omega) rfl (hR _ _ _ (RTw i (by omega)).2.2.1) ?_
      refine E_getI dX11_openBits_20 f_X11_180 (LYw i (by omega)).2.2.2.1 (by first | assumption | omega) rfl ?_
      refine E.top ((hX.1 i (by omega)).2.2.2.1 4 (by decide)) ?_
      refine E_zN_eq (a := σ 3 i 4) (tgt := 32) dX11_openBits_23 (by omega) (by decide) (fun c23 => ?_) (fun c23 => ?_)
      · refine E_ic (nI 0) dX11_openBits_32 (by decide) ?_
        first | refine E.iorz dX11_openBits_33 ?_ | refine E_ior dX11_openBits_33 ?_
        refine E_istore_n dX11_openBits_34 (Nat.le_of_ble_eq_true rfl) ?_
        refine E_incN dX11_openBits_35 rfl ?_
        refine E_goto (tgt := 4) dX11_openBits_38 (by decide) ?_
        refine E.mask [true, true, true] ?_
        rw [bitS_f (by omega)] at ih
        exact ih
      · refine E_ic (nI 1) dX11_openBits_26 (by decide) ?_
        refine E_iload_n dX11_openBits_27 rfl ?_
        refine E_ishl dX11_openBits_28 ?_
        refine E_goto (tgt := 33) dX11_openBits_29 (by decide) ?_
        first | refine E.iorz dX11_openBits_33 ?_ | refine E_ior dX11_openBits_33 ?_
        refine E_istore_n dX11_openBits_34 (Nat.le_of_ble_eq_true rfl) ?_
        refine E_incN dX11_openBits_35 rfl ?_
        refine E_goto (tgt := 4) dX11_openBits_38 (by decide) ?_
        rw [bitS_t (by omega)] at ih
        exact ih
  refine E_ic (nI 0) dX11_openBits_0 (by decide) ?_
  refine E_istore_n dX11_openBits_1 (Nat.le_of_ble_eq_true rfl) ?_
  refine E_ic (nI 0) dX11_openBits_2 (by decide) ?_
  refine E_istore_n dX11_openBits_3 (Nat.le_of_ble_eq_true rfl) ?_
  exact L 0 (by omega)
set_option maxRecDepth 100000 in
set_option maxHeartbeats 2000000 in
theorem x_layersLeft (hB : BND σ) (hX : XR σ n I R) (hQ : Q (some (.int (nI (sumS (fun k => σ 0 k 0 - σ 3 k 3) 12)))) n I J R) : E g mX11_layersLeft d 0 0 0 (ent 3 [.ref 0]) [] n I J R Q := by
  have hn := hX.2.2.2.1.n
  have hR := hX.2.2.2.1.1
  have L : ∀ i, i ≤ 12 → E g mX11_layersLeft d 0 0 4 [.ref 0, .int (nI (sumS (fun k => σ 0 k 0 - σ 3 k 3) i)), .int (nI i)] [] n I J R Q := by
    refine loopU 12 ?_ (fun i hi ih => ?_)
    · refine E_iload_n dX11_layersLeft_4 rfl ?_
      refine E_bp (nI 12) dX11_layersLeft_5 (by decide) ?_
      refine E_cN_ge (a := 12) (b := 12) (tgt := 41) dX11_layersLeft_7 (by omega) (by omega) (by decide) (fun c7 => ?_) (fun c7 => absurd c7 (by omega))
      refine E_iload_n dX11_layersLeft_41 rfl ?_
      exact E_iret dX11_layersLeft_42 rfl (hQ)
    · have b := hB.1 i hi
      refine E_iload_n dX11_layersLeft_4 rfl ?_
      refine E_bp (nI 12) dX11_layersLeft_5 (by decide) ?_
      refine E_cN_ge (a := i) (b := 12) (tgt := 41) dX11_layersLeft_7 (by omega) (by omega) (by decide) (fun c7 => absurd c7 (by omega)) (fun c7 => ?_)
      refine E_iload_n dX11_layersLeft_10 rfl ?_
      refine E_aload_n dX11_layersLeft_11 rfl ?_
      refine E_getR dX11_layersLeft_12 f_X11_11 rfl (by first | assumption | omega) rfl (hR _ _ _ rfl) ?_
      refine E_iload_n dX11_layersLeft_15 rfl ?_
      refine E_aaldN dX11_layersLeft_16 rfl (by first | assumption | omega) (by omega) (hR _ _ _ (RT1 i (by omega))) ?_
      refine E_getI dX11_layersLeft_17 f_X11_187 (LYw i (by omega)).1 (by first | assumption | omega) rfl ?_
      refine E.top ((hX.1 i (by omega)).1) ?_
      refine E_aload_n dX11_layersLeft_20 rfl ?_
      refine E_getR dX11_layersLeft_21 f_X11_11 rfl (by first | assumption | omega) rfl (hR _ _ _ rfl) ?_
      refine E_iload_n dX11_layersLeft_24 rfl ?_
      refine E_aaldN dX11_layersLeft_25 rfl (by first | assumption | omega) (by omega) (hR _ _ _ (RT1 i (by omega))) ?_
      refine E_getR dX11_layersLeft_26 f_X11_146 (LYw i (by omega)).1 (by first | assumption | omega) rfl (hR _ _ _ (RTw i (by omega)).2.2.1) ?_
      refine E_getI dX11_layersLeft_29 f_X11_190 (LYw i (by omega)).2.2.2.1 (by first | assumption | omega) rfl ?_
      refine E.top ((hX.1 i (by omega)).2.2.2.1 3 (by decide)) ?_
      refine E_isub dX11_layersLeft_32 ?_
      refine E.top (pk_sub (a := σ 0 i 0) (b := σ 3 i 3) (by omega)) ?_
      refine E_iadd dX11_layersLeft_33 ?_
      refine E.top (nI_add (sumS (fun k => σ 0 k 0 - σ 3 k 3) i) ((σ 0 i 0) - (σ 3 i 3))) ?_
      refine E_istore_n dX11_layersLeft_34 (Nat.le_of_ble_eq_true rfl) ?_
      refine E_incN dX11_layersLeft_35 rfl ?_
      refine E_goto (tgt := 4) dX11_layersLeft_38 (by decide) ?_
      exact ih
  refine E_ic (nI 0) dX11_layersLeft_0 (by decide) ?_
  refine E_istore_n dX11_layersLeft_1 (Nat.le_of_ble_eq_true rfl) ?_
  refine E_ic (nI 0) dX11_layersLeft_2 (by decide) ?_
  refine E_istore_n dX11_layersLeft_3 (Nat.le_of_ble_eq_true rfl) ?_
  exact L 0 (by omega)
set_option maxRecDepth 100000 in
set_option maxHeartbeats 2000000 in
theorem m_setOf48 (hB : BND σ) (hM : MR σ I) (hN : 152 ≤ n) (hR : RS R) (hQ : Q (some (.int (bitS (fun k => σ 3 k 5) 12))) n I J R) : E g mX12_setOf (d + 2) 0 0 0 (ent 4 [.ref 114, .int (nI 48)]) [] n I J R Q := by
  have L : ∀ i, i ≤ 12 → E g mX12_setOf (d + 2) 0 0 4 [.ref 114, .int (nI 48), .int (bitS (fun k => σ 3 k 5) i), .int (nI i)] [] n I J R Q := by
    refine loopU 12 ?_ (fun i hi ih => ?_)
    · refine E_iload_n dX12_setOf_4 rfl ?_
      refine E_bp (nI 12) dX12_setOf_5 (by decide) ?_
      refine E_cN_ge (a := 12) (b := 12) (tgt := 42) dX12_setOf_7 (by omega) (by omega) (by decide) (fun c7 => ?_) (fun c7 => absurd c7 (by omega))
      refine E_iload_n dX12_setOf_42 rfl ?_
      exact E_iret dX12_setOf_43 rfl (hQ)
    · have b := hB.1 i hi
      have b5 := b.2.2.1.2.2.2.2.1
      have b6 := b.2.2.1.2.2.2.2.2.1
      have bz := hB.2.2.2.2.2.2 i hi
      refine E_iload_n dX12_setOf_4 rfl ?_
      refine E_bp (nI 12) dX12_setOf_5 (by decide) ?_
      refine E_cN_ge (a := i) (b := 12) (tgt := 42) dX12_setOf_7 (by omega) (by omega) (by decide) (fun c7 => absurd c7 (by omega)) (fun c7 => ?_)
      refine E_aload_n dX12_setOf_10 rfl ?_
      refine E_iload_n dX12_setOf_11 rfl ?_
      refine E_callV (As := [_]) (ci := 11) (kc' := 0) (ks' := 0) (kc := 0) (ks := 0) dX12_setOf_12 ok_X12_isTold w_X12_340 i_X12_isTold s_X12_isTold rfl (by decide) rfl (by first | assumption | omega) rfl rfl rfl (Nat.le_of_ble_eq_true rfl) (Nat.le_of_ble_eq_true rfl) (Nat.le_refl _) (M_isTold (d := d) hB hM hN hR (fun j hj e p => ?_) (fun z => ?_))
      · have e := (nI_eq (by omega) (by omega)).mp e
        subst e
        refine E_zN_eq (a := 1) (tgt := 36) dX12_setOf_15 (by omega) (by decide) (fun c15 => ?_) (fun c15 => ?_)
        · refine E_incN dX12_setOf_36 rfl ?_
          refine E_goto (tgt := 4) dX12_setOf_39 (by decide) ?_
          rw [bitS_f (by omega)] at ih
          exact ih
        · refine E_aload_n dX12_setOf_18 rfl ?_
          refine E_getR dX12_setOf_19 f_X12_7 rfl (by first | assumption | omega) rfl (hR _ _ _ rfl) ?_
          refine E_iload_n dX12_setOf_22 rfl ?_
          refine E_iload_n dX12_setOf_23 rfl ?_
          refine E_iadd dX12_setOf_24 ?_
          refine E.top (nI_add 48 i) ?_
          refine E_ialdN dX12_setOf_25 rfl (by first | assumption | omega) (by omega) ?_
          refine E.top ((hM.2.1.1 i (by omega)).2.2.2.2.1) ?_
          refine E_ic (nI 1) dX12_setOf_26 (by decide) ?_
          refine E_cN_ne (a := σ 3 i 5) (b := 1) (tgt := 36) dX12_setOf_27 (by omega) (by omega) (by decide) (fun c27 => ?_) (fun c27 => ?_)
          · refine E_incN dX12_setOf_36 rfl ?_
            refine E_goto (tgt := 4) dX12_setOf_39 (by decide) ?_
            rw [bitS_f (by omega)] at ih
            exact ih
          · refine E_iload_n dX12_setOf_30 rfl ?_
            refine E_ic (nI 1) dX12_setOf_31 (by decide) ?_
            refine E_iload_n dX12_setOf_32 rfl ?_
            refine E_ishl dX12_setOf_33 ?_
            refine E_ior dX12_setOf_34 ?_
            refine E_istore_n dX12_setOf_35 (Nat.le_of_ble_eq_true rfl) ?_
            refine E_incN dX12_setOf_36 rfl ?_
            refine E_goto (tgt := 4) dX12_setOf_39 (by decide) ?_
            rw [bitS_t (by omega)] at ih
            exact ih
      · have z0 : σ 0 i 0 = 0 := Nat.eq_zero_of_not_pos (fun y => z (tk_of hi y))
        refine E_zN_eq (a := 0) (tgt := 36) dX12_setOf_15 (by omega) (by decide) (fun c15 => ?_) (fun c15 => ?_)
        · refine E_incN dX12_setOf_36 rfl ?_
          refine E_goto (tgt := 4) dX12_setOf_39 (by decide) ?_
          rw [bitS_f (by omega)] at ih
          exact ih
        · refine E_aload_n dX12_setOf_18 rfl ?_
          refine E_getR dX12_setOf_19 f_X12_7 rfl (by first | assumption | omega) rfl (hR _ _ _ rfl) ?_
          refine E_iload_n dX12_setOf_22 rfl ?_
          refine E_iload_n dX12_setOf_23 rfl ?_
          refine E_iadd dX12_setOf_24 ?_
          refine E.top (nI_add 48 i) ?_
          refine E_ialdN dX12_setOf_25 rfl (by first | assumption | omega) (by omega) ?_
          refine E.top ((hM.2.1.1 i (by omega)).2.2.2.2.1) ?_
          refine E_ic (nI 1) dX12_setOf_26 (by decide) ?_
          refine E_cN_ne (a := σ 3 i 5) (b := 1) (tgt := 36) dX12_setOf_27 (by omega) (by omega) (by decide) (fun c27 => ?_) (fun c27 => ?_)
          · refine E_incN dX12_setOf_36 rfl ?_
            refine E_goto (tgt := 4) dX12_setOf_39 (by decide) ?_
            rw [bitS_f (by omega)] at ih
            exact ih
          · refine E_iload_n dX12_setOf_30 rfl ?_
            refine E_ic (nI 1) dX12_setOf_31 (by decide) ?_
            refine E_iload_n dX12_setOf_32 rfl ?_
            refine E_ishl dX12_setOf_33 ?_
            refine E_ior dX12_setOf_34 ?_
            refine E_istore_n dX12_setOf_35 (Nat.le_of_ble_eq_true rfl) ?_
            refine E_incN dX12_setOf_36 rfl ?_
            refine E_goto (tgt := 4) dX12_setOf_39 (by decide) ?_
            rw [bitS_t (by omega)] at ih
            exact ih
  refine E_ic (nI 0) dX12_setOf_0 (by decide) ?_
  refine E_istore_n dX12_setOf_1 (Nat.le_of_ble_eq_true rfl) ?_
  refine E_ic (nI 0) dX12_setOf_2 (by decide) ?_
  refine E_istore_n dX12_setOf_3 (Nat.le_of_ble_eq_true rfl) ?_
  exact L 0 (by omega)
set_option maxRecDepth 100000 in
set_option maxHeartbeats 2000000 in
theorem m_setOf36 (hB : BND σ) (hM : MR σ I) (hN : 152 ≤ n) (hR : RS R) (hQ : Q (some (.int (bitS (fun k => σ 3 k 4) 12))) n I J R) : E g mX12_setOf (d + 2) 0 0 0 (ent 4 [.ref 114, .int (nI 36)]) [] n I J R Q := by
  have L : ∀ i, i ≤ 12 → E g mX12_setOf (d + 2) 0 0 4 [.ref 114, .int (nI 36), .int (bitS (fun k => σ 3 k 4) i), .int (nI i)] [] n I J R Q := by
    refine loopU 12 ?_ (fun i hi ih => ?_)
    · refine E_iload_n dX12_setOf_4 rfl ?_
      refine E_bp (nI 12) dX12_setOf_5 (by decide) ?_
      refine E_cN_ge (a := 12) (b := 12) (tgt := 42) dX12_setOf_7 (by omega) (by omega) (by decide) (fun c7 => ?_) (fun c7 => absurd c7 (by omega))
      refine E_iload_n dX12_setOf_42 rfl ?_
      exact E_iret dX12_setOf_43 rfl (hQ)
    · have b := hB.1 i hi
      have b5 := b.2.2.1.2.2.2.2.1
      have b6 := b.2.2.1.2.2.2.2.2.1
      have bz := hB.2.2.2.2.2.2 i hi
      refine E_iload_n dX12_setOf_4 rfl ?_
      refine E_bp (nI 12) dX12_setOf_5 (by decide) ?_
      refine E_cN_ge (a := i) (b := 12) (tgt := 42) dX12_setOf_7 (by omega) (by omega) (by decide) (fun c7 => absurd c7 (by omega)) (fun c7 => ?_)
      refine E_aload_n dX12_setOf_10 rfl ?_
      refine E_iload_n dX12_setOf_11 rfl ?_
      refine E_callV (As := [_]) (ci := 11) (kc' := 0) (ks' := 0) (kc := 0) (ks := 0) dX12_setOf_12 ok_X12_isTold w_X12_340 i_X12_isTold s_X12_isTold rfl (by decide) rfl (by first | assumption | omega) rfl rfl rfl (Nat.le_of_ble_eq_true rfl) (Nat.le_of_ble_eq_true rfl) (Nat.le_refl _) (M_isTold (d := d) hB hM hN hR (fun j hj e p => ?_) (fun z => ?_))
      · have e := (nI_eq (by omega) (by omega)).mp e
        subst e
        refine E_zN_eq (a := 1) (tgt := 36) dX12_setOf_15 (by omega) (by decide) (fun c15 => ?_) (fun c15 => ?_)
        · refine E_incN dX12_setOf_36 rfl ?_
          refine E_goto (tgt := 4) dX12_setOf_39 (by decide) ?_
          rw [bitS_f (by omega)] at ih
          exact ih
        · refine E_aload_n dX12_setOf_18 rfl ?_
          refine E_getR dX12_setOf_19 f_X12_7 rfl (by first | assumption | omega) rfl (hR _ _ _ rfl) ?_
          refine E_iload_n dX12_setOf_22 rfl ?_
          refine E_iload_n dX12_setOf_23 rfl ?_
          refine E_iadd dX12_setOf_24 ?_
          refine E.top (nI_add 36 i) ?_
          refine E_ialdN dX12_setOf_25 rfl (by first | assumption | omega) (by omega) ?_
          refine E.top ((hM.2.1.1 i (by omega)).2.2.2.1) ?_
          refine E_ic (nI 1) dX12_setOf_26 (by decide) ?_
          refine E_cN_ne (a := σ 3 i 4) (b := 1) (tgt := 36) dX12_setOf_27 (by omega) (by omega) (by decide) (fun c27 => ?_) (fun c27 => ?_)
          · refine E_incN dX12_setOf_36 rfl ?_
            refine E_goto (tgt := 4) dX12_setOf_39 (by decide) ?_
            rw [bitS_f (by omega)] at ih
            exact ih
          · refine E_iload_n dX12_setOf_30 rfl ?_
            refine E_ic (nI 1) dX12_setOf_31 (by decide) ?_
            refine E_iload_n dX12_setOf_32 rfl ?_
            refine E_ishl dX12_setOf_33 ?_
            refine E_ior dX12_setOf_34 ?_
            refine E_istore_n dX12_setOf_35 (Nat.le_of_ble_eq_true rfl) ?_
            refine E_incN dX12_setOf_36 rfl ?_
            refine E_goto (tgt := 4) dX12_setOf_39 (by decide) ?_
            rw [bitS_t (by omega)] at ih
            exact ih
      · have z0 : σ 0 i 0 = 0 := Nat.eq_zero_of_not_pos (fun y => z (tk_of hi y))
        refine E_zN_eq (a := 0) (tgt := 36) dX12_setOf_15 (by omega) (by decide) (fun c15 => ?_) (fun c15 => ?_)
        · refine E_incN dX12_setOf_36 rfl ?_
          refine E_goto (tgt := 4) dX12_setOf_39 (by decide) ?_
          rw [bitS_f (by omega)] at ih
          exact ih
        · refine E_aload_n dX12_setOf_18 rfl ?_
          refine E_getR dX12_setOf_19 f_X12_7 rfl (by first | assumption | omega) rfl (hR _ _ _ rfl) ?_
          refine E_iload_n dX12_setOf_22 rfl ?_
          refine E_iload_n dX12_setOf_23 rfl ?_
          refine E_iadd dX12_setOf_24 ?_
          refine E.top (nI_add 36 i) ?_
          refine E_ialdN dX12_setOf_25 rfl (by first | assumption | omega) (by omega) ?_
          refine E.top ((hM.2.1.1 i (by omega)).2.2.2.1) ?_
          refine E_ic (nI 1) dX12_setOf_26 (by decide) ?_
          refine E_cN_ne (a := σ 3 i 4) (b := 1) (tgt := 36) dX12_setOf_27 (by omega) (by omega) (by decide) (fun c27 => ?_) (fun c27 => ?_)
          · refine E_incN dX12_setOf_36 rfl ?_
            refine E_goto (tgt := 4) dX12_setOf_39 (by decide) ?_
            rw [bitS_f (by omega)] at ih
            exact ih
          · refine E_iload_n dX12_setOf_30 rfl ?_
            refine E_ic (nI 1) dX12_setOf_31 (by decide) ?_
            refine E_iload_n dX12_setOf_32 rfl ?_
            refine E_ishl dX12_setOf_33 ?_
            refine E_ior dX12_setOf_34 ?_
            refine E_istore_n dX12_setOf_35 (Nat.le_of_ble_eq_true rfl) ?_
            refine E_incN dX12_setOf_36 rfl ?_
            refine E_goto (tgt := 4) dX12_setOf_39 (by decide) ?_
            rw [bitS_t (by omega)] at ih
            exact ih
  refine E_ic (nI 0) dX12_setOf_0 (by decide) ?_
  refine E_istore_n dX12_setOf_1 (Nat.le_of_ble_eq_true rfl) ?_
  refine E_ic (nI 0) dX12_setOf_2 (by decide) ?_
  refine E_istore_n dX12_setOf_3 (Nat.le_of_ble_eq_true rfl) ?_
  exact L 0 (by omega)
end PCount
