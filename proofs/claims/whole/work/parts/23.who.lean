/-! ===== who, check ===== -/
/-- within 0..m, or not -/
def rg (x : Int32) (m : Nat) : Prop := ∃ j, j ≤ m ∧ x = nI j
theorem rg_of {m j : Nat} (h : j ≤ m) : rg (nI j) m := ⟨j, h, rfl⟩
theorem rg_no {x : Int32} {m : Nat} (h : x < 0 ∨ nI (m + 1) ≤ x) (hm : m + 1 < 2 ^ 31) : ¬ rg x m := by
  rintro ⟨j, hj, rfl⟩
  rcases h with h | h
  · exact nI_pos (by omega) h
  · exact nI_ge (show j < m + 1 by omega) hm h
def whP (x : Int32) (σ : ST) (k : Nat) : Nat := if (sinS (σ 2 k) (σ 0 k 0 - σ 3 k 3) (σ 3 k 3) 0 >>> (x &&& 31)) &&& nI 1 = nI 1 then 1 else 0
noncomputable def r_who (x : Int32) (σ : ST) : Value := .int (gd (rg x 15) (bitS (whP x σ) 12) (-1))
def dueS (σ : ST) (k : Nat) : Nat := if 0 < σ 0 k 0 then σ 3 k 3 else 255
def chS (σ : ST) : Nat → Nat → Int32
  | 0, _ => -1
  | m + 1, k => if σ 8 k 0 = dueS σ k then chS σ m (k + 1) else nI k
theorem chS_t {σ : ST} {m k : Nat} (hk : k < m) (h : σ 8 k 0 = dueS σ k) : chS σ (m - k) k = chS σ (m - (k + 1)) (k + 1) := by
  rw [show m - k = (m - (k + 1)) + 1 by omega]
  exact if_pos h
theorem chS_f {σ : ST} {m k : Nat} (hk : k < m) (h : σ 8 k 0 ≠ dueS σ k) : chS σ (m - k) k = nI k := by
  rw [show m - k = (m - (k + 1)) + 1 by omega]
  exact if_neg h
noncomputable def r_check (x : Int32) (σ : ST) : Value := .int (gd (tp σ x 0 12) (chS σ x.toNatClampNeg 0) (-2))
noncomputable def u_tp (x : Int32) (lo hi : Nat) (σ : ST) : ST := gd (tp σ x lo hi) (u0 σ) σ
theorem b_tp (x : Int32) (lo hi : Nat) : ∀ σ, BND σ → BND (u_tp x lo hi σ) := by
  intro σ h
  unfold u_tp
  by_cases c : tp σ x lo hi
  · rw [gd_t c]
    exact u0_B h
  · rw [gd_f c]
    exact h
section PWho
variable {g : GL} {d n : Nat} {I : IM} {J : JM} {R : RM} {Q : PQ} {σ : ST}
set_option maxRecDepth 100000 in
set_option maxHeartbeats 2000000 in
theorem m_has {s k : Int32} (ht : (s >>> (k &&& 31)) &&& nI 1 = nI 1 → Q (some (.int 1)) n I J R) (hf : ¬ (s >>> (k &&& 31)) &&& nI 1 = nI 1 → Q (some (.int 0)) n I J R) : E g mX12_has d 0 0 0 (ent 2 [.int s, .int k]) [] n I J R Q := by
  refine E_iload_n dX12_has_0 rfl ?_
  refine E_iload_n dX12_has_1 rfl ?_
  refine E_ishr dX12_has_2 ?_
  refine E_ic (nI 1) dX12_has_3 (by decide) ?_
  refine E_iand dX12_has_4 ?_
  refine E_ic (nI 1) dX12_has_5 (by decide) ?_
  refine E_icmp_ne (tgt := 13) dX12_has_6 (by decide) (fun c6 => ?_) (fun c6 => ?_)
  · refine E_ic (nI 0) dX12_has_13 (by decide) ?_
    exact E_zret dX12_has_14 rfl (by decide) (by first | exact ht c6 | exact hf c6)
  · refine E_ic (nI 1) dX12_has_9 (by decide) ?_
    refine E_goto (tgt := 14) dX12_has_10 (by decide) ?_
    exact E_zret dX12_has_14 rfl (by decide) (by first | exact ht c6 | exact hf c6)
set_option maxRecDepth 100000 in
set_option maxHeartbeats 2000000 in
theorem m_octet {k : Nat} (hT : MT σ (I 121)) (hB : BND σ) (hN : 152 ≤ n) (hR : RS R) (hk : k < σ 9 0 0) (hQ : Q (some (.int (nI (σ 8 k 0)))) n I J R) : E g mX12_octet d 0 0 0 (ent 2 [.ref 114, .int (nI k)]) [] n I J R Q := by
  have b9 : σ 9 0 0 ≤ 260 := hB.2.2.2.2.2.1
  refine E_aload_n dX12_octet_0 rfl ?_
  refine E_getR dX12_octet_1 f_X12_28 rfl (Nat.lt_of_lt_of_le (by decide) hN) rfl (hR _ _ _ rfl) ?_
  refine E_iload_n dX12_octet_4 rfl ?_
  refine E_baldN dX12_octet_5 rfl (Nat.lt_of_lt_of_le (by decide) hN) (by first | assumption | omega) ?_
  refine E_sp (nI 255) dX12_octet_6 (by decide) ?_
  refine E_iand dX12_octet_9 ?_
  refine E.top (hT k hk) ?_
  exact E_iret dX12_octet_10 rfl (hQ)
set_option maxRecDepth 100000 in
set_option maxHeartbeats 2000000 in
theorem sx_who (x : Int32) : SX mX11_who [.int x] (r_who x) id := by
  intro g n I J R σ Q hB hX hQ
  have hN := hX.2.2.2.1.n.1
  have hR := hX.2.2.2.1.1
  have hq := hQ I J hX (fun _ _ _ => rfl) (fun _ _ _ => rfl)
  unfold r_who at hq
  rcases i32_ix x 16 (by decide) with hx | ⟨s, hs, rfl⟩
  · rw [gd_f (rg_no hx (by decide))] at hq
    refine E_iload_n dX11_who_0 rfl ?_
    refine E_if_lt (tgt := 10) dX11_who_1 (by decide) (fun c1 => ?_) (fun c1 => ?_)
    · refine E_ic (-1) dX11_who_10 (by decide) ?_
      exact E_iret dX11_who_11 rfl (hq)
    · refine E_iload_n dX11_who_4 rfl ?_
      refine E_bp (nI 16) dX11_who_5 (by decide) ?_
      refine E_icmp_lt (tgt := 12) dX11_who_7 (by decide) (fun c7 => by first | exact absurd c7 (fun z => hx.elim c1 (fun q => absurd z (Int32.not_lt.mpr q))) | exact absurd (fun z => hx.elim c1 (fun q => absurd z (Int32.not_lt.mpr q))) c7) (fun c7 => ?_)
      refine E_ic (-1) dX11_who_10 (by decide) ?_
      exact E_iret dX11_who_11 rfl (hq)
  · rw [gd_t (rg_of (show s ≤ 15 by omega))] at hq
    have L : ∀ i, i ≤ 12 → E g mX11_who 900 0 0 16 [.ref 0, .int (nI s), .int (bitS (whP (nI s) σ) i), .int (nI i)] [] n I J R Q := by
      refine loopU 12 ?_ (fun i hi ih => ?_)
      · refine E_iload_n dX11_who_16 rfl ?_
        refine E_bp (nI 12) dX11_who_17 (by decide) ?_
        refine E_cN_ge (a := 12) (b := 12) (tgt := 51) dX11_who_19 (by decide) (by decide) (by decide) (fun c19 => ?_) (fun c19 => absurd c19 (by omega))
        refine E_iload_n dX11_who_51 rfl ?_
        exact E_iret dX11_who_52 rfl (hq)
      · refine E_iload_n dX11_who_16 rfl ?_
        refine E_bp (nI 12) dX11_who_17 (by decide) ?_
        refine E_cN_ge (a := i) (b := 12) (tgt := 51) dX11_who_19 (by omega) (by decide) (by decide) (fun c19 => absurd c19 (by omega)) (fun c19 => ?_)
        refine E_aload_n dX11_who_22 rfl ?_
        refine E_getR dX11_who_23 f_X11_11 rfl (Nat.lt_of_lt_of_le (by decide) hN) rfl (hR _ _ _ rfl) ?_
        refine E_iload_n dX11_who_26 rfl ?_
        refine E_aaldN dX11_who_27 rfl (Nat.lt_of_lt_of_le (by decide) hN) (by first | assumption | omega) (hR _ _ _ (RT1 i (by first | assumption | omega))) ?_
        refine E_callV (As := []) (ci := 9) (kc' := 0) (ks' := 0) (kc := 0) (ks := 0) dX11_who_28 ok_X10_sinsLeft w_X11_202 i_X10_sinsLeft s_X10_sinsLeft rfl (by decide) (LYw i (by first | assumption | omega)).1 (by first | assumption | omega) rfl rfl rfl (Nat.le_of_ble_eq_true rfl) (Nat.le_of_ble_eq_true rfl) (Nat.le_refl _) (x_sinsLeft (d := 898) hB hX hi ?_)
        refine E_iload_n dX11_who_31 rfl ?_
        refine E_ishr dX11_who_32 ?_
        refine E_ic (nI 1) dX11_who_33 (by decide) ?_
        refine E_iand dX11_who_34 ?_
        refine E_ic (nI 1) dX11_who_35 (by decide) ?_
        refine E_icmp_ne (tgt := 45) dX11_who_36 (by decide) (fun c36 => ?_) (fun c36 => ?_)
        · refine E_incN dX11_who_45 rfl ?_
          refine E_goto (tgt := 16) dX11_who_48 (by decide) ?_
          rw [bitS_f (by unfold whP; rw [if_neg c36])] at ih
          exact ih
        · refine E_iload_n dX11_who_39 rfl ?_
          refine E_ic (nI 1) dX11_who_40 (by decide) ?_
          refine E_iload_n dX11_who_41 rfl ?_
          refine E_ishl dX11_who_42 ?_
          refine E_ior dX11_who_43 ?_
          refine E_istore_n dX11_who_44 (Nat.le_of_ble_eq_true rfl) ?_
          refine E_incN dX11_who_45 rfl ?_
          refine E_goto (tgt := 16) dX11_who_48 (by decide) ?_
          rw [bitS_t (by unfold whP; rw [if_pos c36]; decide)] at ih
          exact ih
    refine E_iload_n dX11_who_0 rfl ?_
    refine E_zN_lt (a := s) (tgt := 10) dX11_who_1 (by omega) (by decide) (fun c1 => c1.elim) (fun c1 => ?_)
    refine E_iload_n dX11_who_4 rfl ?_
    refine E_bp (nI 16) dX11_who_5 (by decide) ?_
    refine E_cN_lt (a := s) (b := 16) (tgt := 12) dX11_who_7 (by omega) (by decide) (by decide) (fun c7 => ?_) (fun c7 => absurd c7 (by omega))
    refine E_ic (nI 0) dX11_who_12 (by decide) ?_
    refine E_istore_n dX11_who_13 (Nat.le_of_ble_eq_true rfl) ?_
    refine E_ic (nI 0) dX11_who_14 (by decide) ?_
    refine E_istore_n dX11_who_15 (Nat.le_of_ble_eq_true rfl) ?_
    exact L 0 (by omega)
set_option maxRecDepth 100000 in
set_option maxHeartbeats 2000000 in
theorem sm_who (x : Int32) : SM mX12_who [.int x] (r_who x) id := by
  intro g n I J R σ Q hB hM hN hR hQ
  have hq := hQ I J hM (fun _ _ => rfl) rfl (fun _ _ _ => rfl)
  unfold r_who at hq
  refine E_iload_n dX12_who_0 rfl ?_
  refine E_ic (nI 0) dX12_who_1 (by decide) ?_
  refine E_bp (nI 15) dX12_who_2 (by decide) ?_
  refine E_callS (As := [_, _, _]) (kc' := 0) (ks' := 0) (kc := 0) (ks := 0) dX12_who_4 ok_X12_in w_X12_124 st_X12_in rfl rfl rfl (Nat.le_of_ble_eq_true rfl) (Nat.le_of_ble_eq_true rfl) (Nat.le_refl _) (M_in (by decide) (by decide) (fun s _ h2 e => ?_) (fun z => ?_))
  · subst e
    rw [gd_t (rg_of h2)] at hq
    have L : ∀ i, i ≤ 12 → E g mX12_who 900 0 0 16 [.ref 114, .int (nI s), .int (bitS (whP (nI s) σ) i), .int (nI i)] [] n I J R Q := by
      refine loopU 12 ?_ (fun i hi ih => ?_)
      · refine E_iload_n dX12_who_16 rfl ?_
        refine E_bp (nI 12) dX12_who_17 (by decide) ?_
        refine E_cN_ge (a := 12) (b := 12) (tgt := 46) dX12_who_19 (by decide) (by decide) (by decide) (fun c19 => ?_) (fun c19 => absurd c19 (by omega))
        refine E_iload_n dX12_who_46 rfl ?_
        exact E_iret dX12_who_47 rfl (hq)
      · refine E_iload_n dX12_who_16 rfl ?_
        refine E_bp (nI 12) dX12_who_17 (by decide) ?_
        refine E_cN_ge (a := i) (b := 12) (tgt := 46) dX12_who_19 (by omega) (by decide) (by decide) (fun c19 => absurd c19 (by omega)) (fun c19 => ?_)
        refine E_aload_n dX12_who_22 rfl ?_
        refine E_iload_n dX12_who_23 rfl ?_
        refine E_callV (As := [_]) (ci := 11) (kc' := 0) (ks' := 0) (kc := 0) (ks := 0) dX12_who_24 ok_X12_sinsLeft w_X12_354 i_X12_sinsLeft s_X12_sinsLeft rfl (by decide) rfl (Nat.lt_of_lt_of_le (by decide) hN) rfl rfl rfl (Nat.le_of_ble_eq_true rfl) (Nat.le_of_ble_eq_true rfl) (Nat.le_refl _) (m_sinsLeft (d := 898) hB hM hN hR hi ?_)
        refine E_iload_n dX12_who_27 rfl ?_
        refine E_callS (As := [_, _]) (kc' := 0) (ks' := 0) (kc := 0) (ks := 0) dX12_who_28 ok_X12_has w_X12_376 st_X12_has rfl rfl rfl (Nat.le_of_ble_eq_true rfl) (Nat.le_of_ble_eq_true rfl) (Nat.le_refl _) (m_has (fun hh => ?_) (fun hh => ?_))
        · refine E_zN_eq (a := 1) (tgt := 40) dX12_who_31 (by decide) (by decide) (fun c31 => absurd c31 (by omega)) (fun c31 => ?_)
          refine E_iload_n dX12_who_34 rfl ?_
          refine E_ic (nI 1) dX12_who_35 (by decide) ?_
          refine E_iload_n dX12_who_36 rfl ?_
          refine E_ishl dX12_who_37 ?_
          refine E_ior dX12_who_38 ?_
          refine E_istore_n dX12_who_39 (Nat.le_of_ble_eq_true rfl) ?_
          refine E_incN dX12_who_40 rfl ?_
          refine E_goto (tgt := 16) dX12_who_43 (by decide) ?_
          rw [bitS_t (by unfold whP; rw [if_pos hh]; decide)] at ih
          exact ih
        · refine E_zN_eq (a := 0) (tgt := 40) dX12_who_31 (by decide) (by decide) (fun c31 => ?_) (fun c31 => absurd c31 (by omega))
          refine E_incN dX12_who_40 rfl ?_
          refine E_goto (tgt := 16) dX12_who_43 (by decide) ?_
          rw [bitS_f (by unfold whP; rw [if_neg hh])] at ih
          exact ih
    refine E_zN_ne (a := 1) (tgt := 12) dX12_who_7 (by decide) (by decide) (fun c7 => ?_) (fun c7 => absurd c7 (by omega))
    refine E_ic (nI 0) dX12_who_12 (by decide) ?_
    refine E_istore_n dX12_who_13 (Nat.le_of_ble_eq_true rfl) ?_
    refine E_ic (nI 0) dX12_who_14 (by decide) ?_
    refine E_istore_n dX12_who_15 (Nat.le_of_ble_eq_true rfl) ?_
    exact L 0 (by omega)
  · rw [gd_f (fun y => by obtain ⟨j, hj, e⟩ := y; exact z j (Nat.zero_le _) hj e)] at hq
    refine E_zN_ne (a := 0) (tgt := 12) dX12_who_7 (by decide) (by decide) (fun c7 => absurd c7 (by omega)) (fun c7 => ?_)
    refine E_ic (-1) dX12_who_10 (by decide) ?_
    exact E_iret dX12_who_11 rfl (by first | exact hq | (exfalso; omega))
set_option maxRecDepth 100000 in
set_option maxHeartbeats 2000000 in
theorem sx_check (x : Int32) : SX mX11_check [.int x] (r_check x) (u_tp x 0 12) := by
  intro g n I J R σ Q hB hX hQ
  have hN := hX.2.2.2.1.n.1
  have hR := hX.2.2.2.1.1
  have b9 : σ 9 0 0 ≤ 260 := hB.2.2.2.2.2.1
  unfold r_check u_tp at hQ
  refine E_aload_n dX11_check_0 rfl ?_
  refine E_iload_n dX11_check_1 rfl ?_
  refine E_ic (nI 0) dX11_check_2 (by decide) ?_
  refine E_bp (nI 12) dX11_check_3 (by decide) ?_
  refine E_callV (As := [_, _, _]) (ci := 10) (kc' := 0) (ks' := 0) (kc := 0) (ks := 0) dX11_check_5 ok_X11_tapeHas w_X11_113 i_X11_tapeHas s_X11_tapeHas rfl (by decide) rfl (Nat.lt_of_lt_of_le (by decide) hN) rfl rfl rfl (Nat.le_of_ble_eq_true rfl) (Nat.le_of_ble_eq_true rfl) (Nat.le_refl _) (X_tapeHas (by decide) (by decide) hB hX (fun m h1 h2 h3 e => ?_) (fun z => ?_))
  · subst e
    rw [gd_t (tp_of h1 h2 h3)] at hQ
    rw [gd_t (tp_of h1 h2 h3), nI_clamp (by omega)] at hQ
    have hq := hQ (up2 I 0 2 (nI 0)) J (u0_X hX) (fun a a1 _ => up2_o I 0 2 _ a (by omega)) (fun a a1 _ => up2_o I 0 2 _ a (by omega))
    have hW : XW σ (up2 I 0 2 (nI 0)) := hX.1.congr (fun a _ _ => up2_o I 0 2 _ a (by omega))
    have L : ∀ i, i ≤ m → chS σ m 0 = chS σ (m - i) i → E g mX11_check 900 0 0 21 [.ref 0, .int (nI m), .int (nI i), jk] [] n (up2 I 0 2 (nI 0)) J R Q := by
      refine loopU m (fun hc => ?_) (fun i hi ih hc => ?_)
      · refine E_iload_n dX11_check_21 rfl ?_
        refine E_iload_n dX11_check_22 rfl ?_
        refine E_cN_ge (a := m) (b := m) (tgt := 75) dX11_check_23 (by omega) (by omega) (by decide) (fun c23 => ?_) (fun c23 => absurd c23 (by omega))
        refine E_ic (-1) dX11_check_75 (by decide) ?_
        exact E_iret dX11_check_76 rfl (by rw [hc, Nat.sub_self] at hq; exact hq)
      · have b := hB.1 i (by omega)
        have b5 := b.2.2.1.2.2.2.1
        have b8 := hB.2.2.2.2.1 i (by omega)
        refine E_iload_n dX11_check_21 rfl ?_
        refine E_iload_n dX11_check_22 rfl ?_
        refine E_cN_ge (a := i) (b := m) (tgt := 75) dX11_check_23 (by omega) (by omega) (by decide) (fun c23 => absurd c23 (by omega)) (fun c23 => ?_)
        refine E_aload_n dX11_check_26 rfl ?_
        refine E_getR dX11_check_27 f_X11_11 rfl (Nat.lt_of_lt_of_le (by decide) hN) rfl (hR _ _ _ rfl) ?_
        refine E_iload_n dX11_check_30 rfl ?_
        refine E_aaldN dX11_check_31 rfl (Nat.lt_of_lt_of_le (by decide) hN) (by first | assumption | omega) (hR _ _ _ (RT1 i (by first | assumption | omega))) ?_
        refine E_getI dX11_check_32 f_X11_314 (LYw i (by first | assumption | omega)).1 (by first | assumption | omega) rfl ?_
        refine E.top ((hW i (by first | assumption | omega)).2.1) ?_
        refine E_zN_eq (a := min 1 (σ 0 i 0)) (tgt := 53) dX11_check_35 (by omega) (by decide) (fun c35 => ?_) (fun c35 => ?_)
        · refine E_sp (nI 255) dX11_check_53 (by decide) ?_
          refine E_istore_n dX11_check_56 (Nat.le_of_ble_eq_true rfl) ?_
          refine E_aload_n dX11_check_57 rfl ?_
          refine E_getR dX11_check_58 f_X11_15 rfl (Nat.lt_of_lt_of_le (by decide) hN) rfl (hR _ _ _ rfl) ?_
          refine E_iload_n dX11_check_61 rfl ?_
          refine E_ialdN dX11_check_62 rfl (Nat.lt_of_lt_of_le (by decide) hN) (by first | assumption | omega) ?_
          refine E.top (hX.2.2.1 i (by first | assumption | omega)) ?_
          refine E_iload_n dX11_check_63 rfl ?_
          refine E_cN_eq (a := σ 8 i 0) (b := 255) (tgt := 69) dX11_check_64 (by omega) (by decide) (by decide) (fun c64 => ?_) (fun c64 => ?_)
          · refine E_incN dX11_check_69 rfl ?_
            refine E_goto (tgt := 21) dX11_check_72 (by decide) ?_
            refine E.mask [true, true, true, false] ?_
            exact ih (hc.trans (chS_t hi (by unfold dueS; first | (rw [if_pos (by omega)]; omega) | (rw [if_neg (by omega)]; omega))))
          · refine E_iload_n dX11_check_67 rfl ?_
            exact E_iret dX11_check_68 rfl (by rw [hc, chS_f hi (by unfold dueS; first | (rw [if_pos (by omega)]; omega) | (rw [if_neg (by omega)]; omega))] at hq; exact hq)
        · refine E_aload_n dX11_check_38 rfl ?_
          refine E_getR dX11_check_39 f_X11_11 rfl (Nat.lt_of_lt_of_le (by decide) hN) rfl (hR _ _ _ rfl) ?_
          refine E_iload_n dX11_check_42 rfl ?_
          refine E_aaldN dX11_check_43 rfl (Nat.lt_of_lt_of_le (by decide) hN) (by first | assumption | omega) (hR _ _ _ (RT1 i (by first | assumption | omega))) ?_
          refine E_getR dX11_check_44 f_X11_146 (LYw i (by first | assumption | omega)).1 (by first | assumption | omega) rfl (hR _ _ _ (RTw i (by first | assumption | omega)).2.2.1) ?_
          refine E_getI dX11_check_47 f_X11_190 (LYw i (by first | assumption | omega)).2.2.2.1 (by first | assumption | omega) rfl ?_
          refine E.top ((hW i (by first | assumption | omega)).2.2.2.1 3 (by decide)) ?_
          refine E_goto (tgt := 56) dX11_check_50 (by decide) ?_
          refine E_istore_n dX11_check_56 (Nat.le_of_ble_eq_true rfl) ?_
          refine E_aload_n dX11_check_57 rfl ?_
          refine E_getR dX11_check_58 f_X11_15 rfl (Nat.lt_of_lt_of_le (by decide) hN) rfl (hR _ _ _ rfl) ?_
          refine E_iload_n dX11_check_61 rfl ?_
          refine E_ialdN dX11_check_62 rfl (Nat.lt_of_lt_of_le (by decide) hN) (by first | assumption | omega) ?_
          refine E.top (hX.2.2.1 i (by first | assumption | omega)) ?_
          refine E_iload_n dX11_check_63 rfl ?_
          refine E_cN_eq (a := σ 8 i 0) (b := σ 3 i 3) (tgt := 69) dX11_check_64 (by omega) (by omega) (by decide) (fun c64 => ?_) (fun c64 => ?_)
          · refine E_incN dX11_check_69 rfl ?_
            refine E_goto (tgt := 21) dX11_check_72 (by decide) ?_
            refine E.mask [true, true, true, false] ?_
            exact ih (hc.trans (chS_t hi (by unfold dueS; first | (rw [if_pos (by omega)]; omega) | (rw [if_neg (by omega)]; omega))))
          · refine E_iload_n dX11_check_67 rfl ?_
            exact E_iret dX11_check_68 rfl (by rw [hc, chS_f hi (by unfold dueS; first | (rw [if_pos (by omega)]; omega) | (rw [if_neg (by omega)]; omega))] at hq; exact hq)
    refine E_zN_ne (a := 1) (tgt := 14) dX11_check_8 (by decide) (by decide) (fun c8 => ?_) (fun c8 => absurd c8 (by omega))
    refine E_aload_n dX11_check_14 rfl ?_
    refine E_ic (nI 0) dX11_check_15 (by decide) ?_
    refine E_putI dX11_check_16 f_X11_19 rfl (Nat.lt_of_lt_of_le (by decide) hN) rfl ?_
    refine E_ic (nI 0) dX11_check_19 (by decide) ?_
    refine E_istore_n dX11_check_20 (Nat.le_of_ble_eq_true rfl) ?_
    exact L 0 (by omega) rfl
  · rw [gd_f z] at hQ
    rw [gd_f z] at hQ
    have hq := hQ I J hX (fun _ _ _ => rfl) (fun _ _ _ => rfl)
    refine E_zN_ne (a := 0) (tgt := 14) dX11_check_8 (by decide) (by decide) (fun c8 => absurd c8 (by omega)) (fun c8 => ?_)
    refine E_bp (-2) dX11_check_11 (by decide) ?_
    exact E_iret dX11_check_13 rfl (by first | exact hq | (exfalso; omega))
set_option maxRecDepth 100000 in
set_option maxHeartbeats 2000000 in
theorem sm_check (x : Int32) : SM mX12_check [.int x] (r_check x) (u_tp x 0 12) := by
  intro g n I J R σ Q hB hM hN hR hQ
  have b9 : σ 9 0 0 ≤ 260 := hB.2.2.2.2.2.1
  have hT := hM.2.2.2.2.1
  unfold r_check u_tp at hQ
  refine E_iload_n dX12_check_0 rfl ?_
  refine E_ic (nI 0) dX12_check_1 (by decide) ?_
  refine E_bp (nI 12) dX12_check_2 (by decide) ?_
  refine E_callS (As := [_, _, _]) (kc' := 0) (ks' := 0) (kc := 0) (ks := 0) dX12_check_4 ok_X12_in w_X12_124 st_X12_in rfl rfl rfl (Nat.le_of_ble_eq_true rfl) (Nat.le_of_ble_eq_true rfl) (Nat.le_refl _) (M_in (by decide) (by decide) (fun m h1 h2 e => ?_) (fun z => ?_))
  · subst e
    refine E_zN_eq (a := 1) (tgt := 18) dX12_check_7 (by decide) (by decide) (fun c7 => absurd c7 (by omega)) (fun c7 => ?_)
    refine E_iload_n dX12_check_10 rfl ?_
    refine E_aload_n dX12_check_11 rfl ?_
    refine E_getI dX12_check_12 f_X12_128 rfl (Nat.lt_of_lt_of_le (by decide) hN) rfl ?_
    refine E.top (hM.2.2.2.1.1) ?_
    refine E_cN_le (a := m) (b := σ 9 0 0) (tgt := 21) dX12_check_15 (by omega) (by omega) (by decide) (fun c15 => ?_) (fun c15 => ?_)
    · rw [gd_t (tp_of h1 h2 c15)] at hQ
      rw [gd_t (tp_of h1 h2 c15), nI_clamp (by omega)] at hQ
      have hM0 := u0_M hM
      have hq := hQ (up2 I 114 7 (nI 0)) J hM0 (fun a a1 => up2_o I 114 7 _ a (by omega)) rfl (fun a a1 _ => up2_o I 114 7 _ a (by omega))
      have L : ∀ i, i ≤ m → chS σ m 0 = chS σ (m - i) i → E g mX12_check 900 0 0 28 [.ref 114, .int (nI m), .int (nI i)] [] n (up2 I 114 7 (nI 0)) J R Q := by
        refine loopU m (fun hc => ?_) (fun i hi ih hc => ?_)
        · refine E_iload_n dX12_check_28 rfl ?_
          refine E_iload_n dX12_check_29 rfl ?_
          refine E_cN_ge (a := m) (b := m) (tgt := 72) dX12_check_30 (by omega) (by omega) (by decide) (fun c30 => ?_) (fun c30 => absurd c30 (by omega))
          refine E_ic (-1) dX12_check_72 (by decide) ?_
          exact E_iret dX12_check_73 rfl (by rw [hc, Nat.sub_self] at hq; exact hq)
        · have b := hB.1 i (by omega)
          have b5 := b.2.2.1.2.2.2.1
          have b8 := hB.2.2.2.2.1 i (by omega)
          refine E_iload_n dX12_check_28 rfl ?_
          refine E_iload_n dX12_check_29 rfl ?_
          refine E_cN_ge (a := i) (b := m) (tgt := 72) dX12_check_30 (by omega) (by omega) (by decide) (fun c30 => absurd c30 (by omega)) (fun c30 => ?_)
          refine E_aload_n dX12_check_33 rfl ?_
          refine E_iload_n dX12_check_34 rfl ?_
          refine E_callV (As := [_]) (ci := 11) (kc' := 0) (ks' := 0) (kc := 0) (ks := 0) dX12_check_35 ok_X12_octet w_X12_387 i_X12_octet s_X12_octet rfl (by decide) rfl (Nat.lt_of_lt_of_le (by decide) hN) rfl rfl rfl (Nat.le_of_ble_eq_true rfl) (Nat.le_of_ble_eq_true rfl) (Nat.le_refl _) (m_octet hT hB hN hR (by omega) ?_)
          refine E_aload_n dX12_check_38 rfl ?_
          refine E_iload_n dX12_check_39 rfl ?_
          refine E_callV (As := [_]) (ci := 11) (kc' := 0) (ks' := 0) (kc := 0) (ks := 0) dX12_check_40 ok_X12_isTold w_X12_340 i_X12_isTold s_X12_isTold rfl (by decide) rfl (Nat.lt_of_lt_of_le (by decide) hN) rfl rfl rfl (Nat.le_of_ble_eq_true rfl) (Nat.le_of_ble_eq_true rfl) (Nat.le_refl _) (M_isTold (σ := u0 σ) (d := 898) (u0_B hB) hM0 hN hR (fun j hj e p => ?_) (fun z => ?_))
          · have e := (nI_eq (by omega) (by omega)).mp e
            subst e
            have p : 0 < σ 0 i 0 := p
            refine E_zN_eq (a := 1) (tgt := 58) dX12_check_43 (by decide) (by decide) (fun c43 => absurd c43 (by omega)) (fun c43 => ?_)
            refine E_aload_n dX12_check_46 rfl ?_
            refine E_getR dX12_check_47 f_X12_7 rfl (Nat.lt_of_lt_of_le (by decide) hN) rfl (hR _ _ _ rfl) ?_
            refine E_bp (nI 60) dX12_check_50 (by decide) ?_
            refine E_iload_n dX12_check_52 rfl ?_
            refine E_iadd dX12_check_53 ?_
            refine E.top (nI_add 60 i) ?_
            refine E_ialdN dX12_check_54 rfl (Nat.lt_of_lt_of_le (by decide) hN) (by first | assumption | omega) ?_
            refine E.top ((hM.2.1.1 i (by first | assumption | omega)).2.2.2.2.2) ?_
            refine E_goto (tgt := 61) dX12_check_55 (by decide) ?_
            refine E_cN_eq (a := σ 8 i 0) (b := σ 3 i 3) (tgt := 66) dX12_check_61 (by omega) (by omega) (by decide) (fun c61 => ?_) (fun c61 => ?_)
            · refine E_incN dX12_check_66 rfl ?_
              refine E_goto (tgt := 28) dX12_check_69 (by decide) ?_
              exact ih (hc.trans (chS_t hi (by unfold dueS; first | (rw [if_pos (by omega)]; omega) | (rw [if_neg (by omega)]; omega))))
            · refine E_iload_n dX12_check_64 rfl ?_
              exact E_iret dX12_check_65 rfl (by rw [hc, chS_f hi (by unfold dueS; first | (rw [if_pos (by omega)]; omega) | (rw [if_neg (by omega)]; omega))] at hq; exact hq)
          · have z0 : σ 0 i 0 = 0 := Nat.eq_zero_of_not_pos (fun y => z (tk_of (by omega) y))
            refine E_zN_eq (a := 0) (tgt := 58) dX12_check_43 (by decide) (by decide) (fun c43 => ?_) (fun c43 => absurd c43 (by omega))
            refine E_sp (nI 255) dX12_check_58 (by decide) ?_
            refine E_cN_eq (a := σ 8 i 0) (b := 255) (tgt := 66) dX12_check_61 (by omega) (by decide) (by decide) (fun c61 => ?_) (fun c61 => ?_)
            · refine E_incN dX12_check_66 rfl ?_
              refine E_goto (tgt := 28) dX12_check_69 (by decide) ?_
              exact ih (hc.trans (chS_t hi (by unfold dueS; first | (rw [if_pos (by omega)]; omega) | (rw [if_neg (by omega)]; omega))))
            · refine E_iload_n dX12_check_64 rfl ?_
              exact E_iret dX12_check_65 rfl (by rw [hc, chS_f hi (by unfold dueS; first | (rw [if_pos (by omega)]; omega) | (rw [if_neg (by omega)]; omega))] at hq; exact hq)
      refine E_aload_n dX12_check_21 rfl ?_
      refine E_ic (nI 0) dX12_check_22 (by decide) ?_
      refine E_putI dX12_check_23 f_X12_128 rfl (Nat.lt_of_lt_of_le (by decide) hN) rfl ?_
      refine E_ic (nI 0) dX12_check_26 (by decide) ?_
      refine E_istore_n dX12_check_27 (Nat.le_of_ble_eq_true rfl) ?_
      exact L 0 (by omega) rfl
    · refine E_bp (-2) dX12_check_18 (by decide) ?_
      exact E_iret dX12_check_20 rfl (by first | exact hq | (have z2 : ¬ tp σ (nI m) 0 12 := (fun y => by obtain ⟨m2, q1, q2, q3, q4⟩ := y; have := (nI_eq (by omega) (by omega)).mp q4; omega); rw [gd_f z2] at hQ; rw [gd_f z2] at hQ; exact hQ I J hM (fun _ _ => rfl) rfl (fun _ _ _ => rfl)))
  · have z2 : ¬ tp σ x 0 12 := fun y => by obtain ⟨m, q1, q2, q3, q4⟩ := y; exact z m q1 q2 q4
    rw [gd_f z2] at hQ
    rw [gd_f z2] at hQ
    have hq := hQ I J hM (fun _ _ => rfl) rfl (fun _ _ _ => rfl)
    refine E_zN_eq (a := 0) (tgt := 18) dX12_check_7 (by decide) (by decide) (fun c7 => ?_) (fun c7 => absurd c7 (by omega))
    refine E_bp (-2) dX12_check_18 (by decide) ?_
    exact E_iret dX12_check_20 rfl (by first | exact hq | (have z2 : ¬ tp σ (nI m) 0 12 := (fun y => by obtain ⟨m2, q1, q2, q3, q4⟩ := y; have := (nI_eq (by omega) (by omega)).mp q4; omega); rw [gd_f z2] at hQ; rw [gd_f z2] at hQ; exact hQ I J hM (fun _ _ => rfl) rfl (fun _ _ _ => rfl)))
end PWho
