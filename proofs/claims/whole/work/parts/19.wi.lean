/-! ===== witnessIs, layerIs ===== -/
def wI (σ : ST) (k : Nat) (w : Int32) : Int32 := if w = nI 0 then nI (σ 0 k 0) else if w = nI 1 then nI (σ 3 k 3) else if w = nI 2 then nI (σ 3 k 0) else if w = nI 3 then nI (σ 3 k 1) else if w = nI 4 then nI (σ 3 k 2) else if w = nI 5 then nI (σ 3 k 4) else if w = nI 6 then nI (σ 3 k 5) else if w = nI 7 then oldS (σ 1 k) (σ 0 k 0 - σ 3 k 3) (σ 3 k 3) (-2) else if w = nI 8 then yngS (σ 1 k) (σ 0 k 0 - σ 3 k 3) (σ 3 k 3) (-2) else if w = nI 9 then sinS (σ 2 k) (σ 0 k 0 - σ 3 k 3) (σ 3 k 3) 0 else -1
theorem wI_no (σ : ST) (k : Nat) {w : Int32} (h : w < 0 ∨ nI 10 ≤ w) : wI σ k w = -1 := by
  have key : ∀ j, j < 10 → w ≠ nI j := by
    rintro j hj rfl
    rcases h with h | h
    · exact nI_pos (by omega) h
    · exact nI_ge hj (by decide) h
  unfold wI
  rw [if_neg (key 0 (by decide)), if_neg (key 1 (by decide)), if_neg (key 2 (by decide)), if_neg (key 3 (by decide)), if_neg (key 4 (by decide)), if_neg (key 5 (by decide)), if_neg (key 6 (by decide)), if_neg (key 7 (by decide)), if_neg (key 8 (by decide)), if_neg (key 9 (by decide))]
def r_wi (x w : Int32) (σ : ST) : Value := .int (if tk σ x then wI σ x.toNatClampNeg w else -1)
theorem r_wi_t {σ : ST} {j : Nat} {w : Int32} (hj : j < 12) (h : 0 < σ 0 j 0) : r_wi (nI j) w σ = .int (wI σ j w) := by
  unfold r_wi
  rw [if_pos (tk_of hj h), nI_clamp (by omega)]
theorem r_wi_f {σ : ST} {x w : Int32} (h : ¬ tk σ x) : r_wi x w σ = .int (-1) := by
  unfold r_wi
  rw [if_neg h]
theorem tout {w : Int32} {hi : Int} {m : Nat} (hm : (nI m).toInt = hi + 1) (h : w < 0 ∨ nI m ≤ w) : w.toInt < 0 ∨ hi < w.toInt := by
  rcases h with h | h
  · left
    have := Int32.lt_iff_toInt_lt.mp h
    simpa using this
  · right
    have := Int32.le_iff_toInt_le.mp h
    omega
theorem bit_n {a : Nat} (h : a ≤ 1) : (nI a = 0 → a = 0) ∧ (¬ nI a = 0 → a = 1) := by
  rcases (show a = 0 ∨ a = 1 by omega) with rfl | rfl
  · exact ⟨fun _ => rfl, fun z => absurd rfl z⟩
  · exact ⟨fun z => absurd z (by decide), fun _ => rfl⟩
section PWi
set_option maxRecDepth 100000 in
set_option maxHeartbeats 1000000 in
theorem sx_witnessIs (x w : Int32) : SX mX11_witnessIs [.int x, .int w] (r_wi x w) id := by
  intro g n I J R σ Q hB hX hQ
  have hn := hX.2.2.2.1.n
  have hR := hX.2.2.2.1.1
  have hq := hQ I J hX (fun _ _ _ => rfl) (fun _ _ _ => rfl)
  refine E_aload_n dX11_witnessIs_0 rfl ?_
  refine E_iload_n dX11_witnessIs_1 rfl ?_
  refine E_callV (As := [_]) (ci := 10) (kc' := 0) (ks' := 0) (kc := 0) (ks := 0) dX11_witnessIs_2 ok_X11_isTold w_X11_138 i_X11_isTold s_X11_isTold rfl (by decide) (by first | assumption | rfl) (by first | assumption | omega) rfl rfl rfl (Nat.le_of_ble_eq_true rfl) (Nat.le_of_ble_eq_true rfl) (Nat.le_refl _) (X_isTold (d := 899) hB hX (fun j hj e p => ?_) (fun z => ?_))
  · subst e
    rw [r_wi_t hj p] at hq
    obtain ⟨b1, b2, b3, b4⟩ := hB.1 j hj
    obtain ⟨w1, w2, w3, w4, -⟩ := hX.1 j hj
    have hw := RTw j hj
    obtain ⟨t9, t20, t20b, t7, t7b⟩ := LYw j hj
    refine E_if_ne (tgt := 10) dX11_witnessIs_5 (by decide) (fun c5 => ?_) (fun c5 => absurd c5 (by decide))
    refine E_aload_n dX11_witnessIs_10 rfl ?_
    refine E_getR dX11_witnessIs_11 f_X11_11 (by first | assumption | rfl) (by first | assumption | omega) rfl (by first | exact hR _ _ _ rfl | assumption) ?_
    refine E_iload_n dX11_witnessIs_14 rfl ?_
    refine E_aaldN dX11_witnessIs_15 rfl (by omega) hj (hR _ _ _ (RT1 j hj)) ?_
    refine E_astore_n dX11_witnessIs_16 (Nat.le_of_ble_eq_true rfl) ?_
    rcases i32_ix w 10 (by decide) with hw0 | ⟨c, hc, rfl⟩
    · rw [wI_no σ j hw0] at hq
      refine E_iload_n dX11_witnessIs_17 rfl ?_
      refine E_tout (tgt := 156) dX11_witnessIs_18 (tout (m := 10) (by decide) hw0) (by decide) ?_
      refine E_ic (-1) dX11_witnessIs_156 (by decide) ?_
      exact E_iret dX11_witnessIs_157 rfl (hq)
    · match c, hc with
      | 0, _ =>
        refine E_iload_n dX11_witnessIs_17 rfl ?_
        refine E_tin (tgt := 72) dX11_witnessIs_18 (by decide) (by decide) rfl (by decide) ?_
        refine E_aload_n dX11_witnessIs_72 rfl ?_
        refine E_getI dX11_witnessIs_73 f_X11_187 t9 (by first | assumption | omega) rfl ?_
        refine E.top w1 ?_
        exact E_iret dX11_witnessIs_76 rfl (hq)
      | 1, _ =>
        refine E_iload_n dX11_witnessIs_17 rfl ?_
        refine E_tin (tgt := 77) dX11_witnessIs_18 (by decide) (by decide) rfl (by decide) ?_
        refine E_aload_n dX11_witnessIs_77 rfl ?_
        refine E_getR dX11_witnessIs_78 f_X11_146 t9 (by first | assumption | omega) rfl (hR _ _ _ hw.2.2.1) ?_
        refine E_getI dX11_witnessIs_81 f_X11_190 t7 (by first | assumption | omega) rfl ?_
        refine E.top (w4 3 (by decide)) ?_
        exact E_iret dX11_witnessIs_84 rfl (hq)
      | 2, _ =>
        refine E_iload_n dX11_witnessIs_17 rfl ?_
        refine E_tin (tgt := 85) dX11_witnessIs_18 (by decide) (by decide) rfl (by decide) ?_
        refine E_aload_n dX11_witnessIs_85 rfl ?_
        refine E_getR dX11_witnessIs_86 f_X11_146 t9 (by first | assumption | omega) rfl (hR _ _ _ hw.2.2.1) ?_
        refine E_getI dX11_witnessIs_89 f_X11_171 t7 (by first | assumption | omega) rfl ?_
        refine E.top (w4 0 (by decide)) ?_
        exact E_iret dX11_witnessIs_92 rfl (hq)
      | 3, _ =>
        refine E_iload_n dX11_witnessIs_17 rfl ?_
        refine E_tin (tgt := 93) dX11_witnessIs_18 (by decide) (by decide) rfl (by decide) ?_
        refine E_aload_n dX11_witnessIs_93 rfl ?_
        refine E_getR dX11_witnessIs_94 f_X11_146 t9 (by first | assumption | omega) rfl (hR _ _ _ hw.2.2.1) ?_
        refine E_getI dX11_witnessIs_97 f_X11_174 t7 (by first | assumption | omega) rfl ?_
        refine E.top (w4 1 (by decide)) ?_
        exact E_iret dX11_witnessIs_100 rfl (hq)
      | 4, _ =>
        refine E_iload_n dX11_witnessIs_17 rfl ?_
        refine E_tin (tgt := 101) dX11_witnessIs_18 (by decide) (by decide) rfl (by decide) ?_
        refine E_aload_n dX11_witnessIs_101 rfl ?_
        refine E_getR dX11_witnessIs_102 f_X11_146 t9 (by first | assumption | omega) rfl (hR _ _ _ hw.2.2.1) ?_
        refine E_getI dX11_witnessIs_105 f_X11_177 t7 (by first | assumption | omega) rfl ?_
        refine E.top (w4 2 (by decide)) ?_
        exact E_iret dX11_witnessIs_108 rfl (hq)
      | 5, _ =>
        refine E_iload_n dX11_witnessIs_17 rfl ?_
        refine E_tin (tgt := 109) dX11_witnessIs_18 (by decide) (by decide) rfl (by decide) ?_
        refine E_aload_n dX11_witnessIs_109 rfl ?_
        refine E_getR dX11_witnessIs_110 f_X11_146 t9 (by first | assumption | omega) rfl (hR _ _ _ hw.2.2.1) ?_
        refine E_getI dX11_witnessIs_113 f_X11_180 t7 (by first | assumption | omega) rfl ?_
        refine E.top (w4 4 (by decide)) ?_
        refine E_if_eq (tgt := 123) dX11_witnessIs_116 (by decide) (fun c116 => ?_) (fun c116 => ?_)
        · refine E_ic (0) dX11_witnessIs_123 (by decide) ?_
          exact E_iret dX11_witnessIs_124 rfl (by first | (have hq : Q (some (.int (nI (σ 3 j 4)))) n I J R := hq; rw [(bit_n b3.2.2.2.2.1).1 c116] at hq; exact hq) | (have hq : Q (some (.int (nI (σ 3 j 4)))) n I J R := hq; rw [(bit_n b3.2.2.2.2.1).2 c116] at hq; exact hq))
        · refine E_ic (1) dX11_witnessIs_119 (by decide) ?_
          refine E_goto (tgt := 124) dX11_witnessIs_120 (by decide) ?_
          exact E_iret dX11_witnessIs_124 rfl (by first | (have hq : Q (some (.int (nI (σ 3 j 4)))) n I J R := hq; rw [(bit_n b3.2.2.2.2.1).1 c116] at hq; exact hq) | (have hq : Q (some (.int (nI (σ 3 j 4)))) n I J R := hq; rw [(bit_n b3.2.2.2.2.1).2 c116] at hq; exact hq))
      | 6, _ =>
        refine E_iload_n dX11_witnessIs_17 rfl ?_
        refine E_tin (tgt := 125) dX11_witnessIs_18 (by decide) (by decide) rfl (by decide) ?_
        refine E_aload_n dX11_witnessIs_125 rfl ?_
        refine E_getR dX11_witnessIs_126 f_X11_146 t9 (by first | assumption | omega) rfl (hR _ _ _ hw.2.2.1) ?_
        refine E_getI dX11_witnessIs_129 f_X11_193 t7 (by first | assumption | omega) rfl ?_
        refine E.top (w4 5 (by decide)) ?_
        refine E_if_eq (tgt := 139) dX11_witnessIs_132 (by decide) (fun c132 => ?_) (fun c132 => ?_)
        · refine E_ic (0) dX11_witnessIs_139 (by decide) ?_
          exact E_iret dX11_witnessIs_140 rfl (by first | (have hq : Q (some (.int (nI (σ 3 j 5)))) n I J R := hq; rw [(bit_n b3.2.2.2.2.2.1).1 c132] at hq; exact hq) | (have hq : Q (some (.int (nI (σ 3 j 5)))) n I J R := hq; rw [(bit_n b3.2.2.2.2.2.1).2 c132] at hq; exact hq))
        · refine E_ic (1) dX11_witnessIs_135 (by decide) ?_
          refine E_goto (tgt := 140) dX11_witnessIs_136 (by decide) ?_
          exact E_iret dX11_witnessIs_140 rfl (by first | (have hq : Q (some (.int (nI (σ 3 j 5)))) n I J R := hq; rw [(bit_n b3.2.2.2.2.2.1).1 c132] at hq; exact hq) | (have hq : Q (some (.int (nI (σ 3 j 5)))) n I J R := hq; rw [(bit_n b3.2.2.2.2.2.1).2 c132] at hq; exact hq))
      | 7, _ =>
        refine E_iload_n dX11_witnessIs_17 rfl ?_
        refine E_tin (tgt := 141) dX11_witnessIs_18 (by decide) (by decide) rfl (by decide) ?_
        refine E_aload_n dX11_witnessIs_141 rfl ?_
        refine E_callV (As := []) (ci := 9) (kc' := 0) (ks' := 0) (kc := 0) (ks := 0) dX11_witnessIs_142 ok_X10_oldestLeft w_X11_196 i_X10_oldestLeft s_X10_oldestLeft rfl (by decide) t9 (by first | assumption | omega) rfl rfl rfl (Nat.le_of_ble_eq_true rfl) (Nat.le_of_ble_eq_true rfl) (Nat.le_refl _) (x_oldestLeft (d := 898) hB hX hj ?_)
        exact E_iret dX11_witnessIs_145 rfl (hq)
      | 8, _ =>
        refine E_iload_n dX11_witnessIs_17 rfl ?_
        refine E_tin (tgt := 146) dX11_witnessIs_18 (by decide) (by decide) rfl (by decide) ?_
        refine E_aload_n dX11_witnessIs_146 rfl ?_
        refine E_callV (As := []) (ci := 9) (kc' := 0) (ks' := 0) (kc := 0) (ks := 0) dX11_witnessIs_147 ok_X10_youngestLeft w_X11_199 i_X10_youngestLeft s_X10_youngestLeft rfl (by decide) t9 (by first | assumption | omega) rfl rfl rfl (Nat.le_of_ble_eq_true rfl) (Nat.le_of_ble_eq_true rfl) (Nat.le_refl _) (x_youngestLeft (d := 898) hB hX hj ?_)
        exact E_iret dX11_witnessIs_150 rfl (hq)
      | 9, _ =>
        refine E_iload_n dX11_witnessIs_17 rfl ?_
        refine E_tin (tgt := 151) dX11_witnessIs_18 (by decide) (by decide) rfl (by decide) ?_
        refine E_aload_n dX11_witnessIs_151 rfl ?_
        refine E_callV (As := []) (ci := 9) (kc' := 0) (ks' := 0) (kc := 0) (ks := 0) dX11_witnessIs_152 ok_X10_sinsLeft w_X11_202 i_X10_sinsLeft s_X10_sinsLeft rfl (by decide) t9 (by first | assumption | omega) rfl rfl rfl (Nat.le_of_ble_eq_true rfl) (Nat.le_of_ble_eq_true rfl) (Nat.le_refl _) (x_sinsLeft (d := 898) hB hX hj ?_)
        exact E_iret dX11_witnessIs_155 rfl (hq)
      | c + 10, h => exact absurd h (by omega)
  · rw [r_wi_f z] at hq
    refine E_if_ne (tgt := 10) dX11_witnessIs_5 (by decide) (fun c5 => absurd (rfl) c5) (fun c5 => ?_)
    refine E_ic (-1) dX11_witnessIs_8 (by decide) ?_
    exact E_iret dX11_witnessIs_9 rfl (hq)
set_option maxRecDepth 100000 in
set_option maxHeartbeats 1000000 in
theorem m_leftOf {g : GL} {d n k : Nat} {I : IM} {J : JM} {R : RM} {Q : PQ} {σ : ST} (hB : BND σ) (hM : MR σ I) (hN : 152 ≤ n) (hR : RS R) (hk : k < 12) (hQ : Q (some (.int (nI (σ 0 k 0 - σ 3 k 3)))) n I J R) : E g mX12_leftOf d 0 0 0 (ent 2 [.ref 114, .int (nI k)]) [] n I J R Q := by
  obtain ⟨b1, b2, b3, b4⟩ := hB.1 k hk
  obtain ⟨w1, w3⟩ := hM.1 k hk
  obtain ⟨f0, f1, f2, f3, f4, f5⟩ := hM.2.1.1 k hk
  refine E_aload_n dX12_leftOf_0 rfl ?_
  refine E_getR dX12_leftOf_1 f_X12_19 (by first | assumption | rfl) (by first | assumption | omega) rfl (by first | exact hR _ _ _ rfl | assumption) ?_
  refine E_iload_n dX12_leftOf_4 rfl ?_
  refine E_ialdN dX12_leftOf_5 rfl (by omega) hk ?_
  refine E.top w1 ?_
  refine E_aload_n dX12_leftOf_6 rfl ?_
  refine E_getR dX12_leftOf_7 f_X12_7 (by first | assumption | rfl) (by first | assumption | omega) rfl (by first | exact hR _ _ _ rfl | assumption) ?_
  refine E_bp (60) dX12_leftOf_10 (by decide) ?_
  refine E_iload_n dX12_leftOf_12 rfl ?_
  refine E_iadd dX12_leftOf_13 ?_
  refine E.top (show (60 : Int32) + nI k = nI (60 + k) from nI_add 60 k) ?_
  refine E_ialdN dX12_leftOf_14 rfl (by omega) (by omega) ?_
  refine E.top f5 ?_
  refine E_isub dX12_leftOf_15 ?_
  refine E.top (pk_sub b4) ?_
  exact E_iret dX12_leftOf_16 rfl (hQ)
set_option maxRecDepth 100000 in
set_option maxHeartbeats 1000000 in
theorem sm_witnessIs (x w : Int32) : SM mX12_witnessIs [.int x, .int w] (r_wi x w) id := by
  intro g n I J R σ Q hB hM hN hR hQ
  have hq := hQ I J hM (fun _ _ => rfl) rfl (fun _ _ _ => rfl)
  refine E_aload_n dX12_witnessIs_0 rfl ?_
  refine E_iload_n dX12_witnessIs_1 rfl ?_
  refine E_callV (As := [_]) (ci := 11) (kc' := 0) (ks' := 0) (kc := 0) (ks := 0) dX12_witnessIs_2 ok_X12_isTold w_X12_340 i_X12_isTold s_X12_isTold rfl (by decide) (by first | assumption | rfl) (by first | assumption | omega) rfl rfl rfl (Nat.le_of_ble_eq_true rfl) (Nat.le_of_ble_eq_true rfl) (Nat.le_refl _) (M_isTold (d := 898) hB hM hN hR (fun j hj e p => ?_) (fun z => ?_))
  · subst e
    rw [r_wi_t hj p] at hq
    obtain ⟨b1, b2, b3, b4⟩ := hB.1 j hj
    obtain ⟨w1, w3⟩ := hM.1 j hj
    obtain ⟨f0, f1, f2, f3, f4, f5⟩ := hM.2.1.1 j hj
    refine E_if_ne (tgt := 10) dX12_witnessIs_5 (by decide) (fun c5 => ?_) (fun c5 => absurd c5 (by decide))
    rcases i32_ix w 10 (by decide) with hw0 | ⟨c, hc, rfl⟩
    · rw [wI_no σ j hw0] at hq
      refine E_iload_n dX12_witnessIs_10 rfl ?_
      refine E_tout (tgt := 162) dX12_witnessIs_11 (tout (m := 10) (by decide) hw0) (by decide) ?_
      refine E_ic (-1) dX12_witnessIs_162 (by decide) ?_
      exact E_iret dX12_witnessIs_163 rfl (hq)
    · match c, hc with
      | 0, _ =>
        refine E_iload_n dX12_witnessIs_10 rfl ?_
        refine E_tin (tgt := 64) dX12_witnessIs_11 (by decide) (by decide) rfl (by decide) ?_
        refine E_aload_n dX12_witnessIs_64 rfl ?_
        refine E_getR dX12_witnessIs_65 f_X12_19 (by first | assumption | rfl) (by first | assumption | omega) rfl (by first | exact hR _ _ _ rfl | assumption) ?_
        refine E_iload_n dX12_witnessIs_68 rfl ?_
        refine E_ialdN dX12_witnessIs_69 rfl (by omega) hj ?_
        refine E.top w1 ?_
        exact E_iret dX12_witnessIs_70 rfl (hq)
      | 1, _ =>
        refine E_iload_n dX12_witnessIs_10 rfl ?_
        refine E_tin (tgt := 71) dX12_witnessIs_11 (by decide) (by decide) rfl (by decide) ?_
        refine E_aload_n dX12_witnessIs_71 rfl ?_
        refine E_getR dX12_witnessIs_72 f_X12_7 (by first | assumption | rfl) (by first | assumption | omega) rfl (by first | exact hR _ _ _ rfl | assumption) ?_
        refine E_bp (60) dX12_witnessIs_75 (by decide) ?_
        refine E_iload_n dX12_witnessIs_77 rfl ?_
        refine E_iadd dX12_witnessIs_78 ?_
        refine E.top (show (60 : Int32) + nI j = nI (60 + j) from by first | exact nI_add 60 j | (rw [show (0 : Int32) = nI 0 from rfl, nI_add, Nat.zero_add])) ?_
        refine E_ialdN dX12_witnessIs_79 rfl (by omega) (by omega) ?_
        refine E.top f5 ?_
        exact E_iret dX12_witnessIs_80 rfl (hq)
      | 2, _ =>
        refine E_iload_n dX12_witnessIs_10 rfl ?_
        refine E_tin (tgt := 81) dX12_witnessIs_11 (by decide) (by decide) rfl (by decide) ?_
        refine E_aload_n dX12_witnessIs_81 rfl ?_
        refine E_getR dX12_witnessIs_82 f_X12_7 (by first | assumption | rfl) (by first | assumption | omega) rfl (by first | exact hR _ _ _ rfl | assumption) ?_
        refine E_ic (0) dX12_witnessIs_85 (by decide) ?_
        refine E_iload_n dX12_witnessIs_86 rfl ?_
        refine E_iadd dX12_witnessIs_87 ?_
        refine E.top (show (0 : Int32) + nI j = nI (j) from by first | exact nI_add 0 j | (rw [show (0 : Int32) = nI 0 from rfl, nI_add, Nat.zero_add])) ?_
        refine E_ialdN dX12_witnessIs_88 rfl (by omega) (by omega) ?_
        refine E.top f0 ?_
        exact E_iret dX12_witnessIs_89 rfl (hq)
      | 3, _ =>
        refine E_iload_n dX12_witnessIs_10 rfl ?_
        refine E_tin (tgt := 90) dX12_witnessIs_11 (by decide) (by decide) rfl (by decide) ?_
        refine E_aload_n dX12_witnessIs_90 rfl ?_
        refine E_getR dX12_witnessIs_91 f_X12_7 (by first | assumption | rfl) (by first | assumption | omega) rfl (by first | exact hR _ _ _ rfl | assumption) ?_
        refine E_bp (12) dX12_witnessIs_94 (by decide) ?_
        refine E_iload_n dX12_witnessIs_96 rfl ?_
        refine E_iadd dX12_witnessIs_97 ?_
        refine E.top (show (12 : Int32) + nI j = nI (12 + j) from by first | exact nI_add 12 j | (rw [show (0 : Int32) = nI 0 from rfl, nI_add, Nat.zero_add])) ?_
        refine E_ialdN dX12_witnessIs_98 rfl (by omega) (by omega) ?_
        refine E.top f1 ?_
        exact E_iret dX12_witnessIs_99 rfl (hq)
      | 4, _ =>
        refine E_iload_n dX12_witnessIs_10 rfl ?_
        refine E_tin (tgt := 100) dX12_witnessIs_11 (by decide) (by decide) rfl (by decide) ?_
        refine E_aload_n dX12_witnessIs_100 rfl ?_
        refine E_getR dX12_witnessIs_101 f_X12_7 (by first | assumption | rfl) (by first | assumption | omega) rfl (by first | exact hR _ _ _ rfl | assumption) ?_
        refine E_bp (24) dX12_witnessIs_104 (by decide) ?_
        refine E_iload_n dX12_witnessIs_106 rfl ?_
        refine E_iadd dX12_witnessIs_107 ?_
        refine E.top (show (24 : Int32) + nI j = nI (24 + j) from by first | exact nI_add 24 j | (rw [show (0 : Int32) = nI 0 from rfl, nI_add, Nat.zero_add])) ?_
        refine E_ialdN dX12_witnessIs_108 rfl (by omega) (by omega) ?_
        refine E.top f2 ?_
        exact E_iret dX12_witnessIs_109 rfl (hq)
      | 5, _ =>
        refine E_iload_n dX12_witnessIs_10 rfl ?_
        refine E_tin (tgt := 110) dX12_witnessIs_11 (by decide) (by decide) rfl (by decide) ?_
        refine E_aload_n dX12_witnessIs_110 rfl ?_
        refine E_getR dX12_witnessIs_111 f_X12_7 (by first | assumption | rfl) (by first | assumption | omega) rfl (by first | exact hR _ _ _ rfl | assumption) ?_
        refine E_bp (36) dX12_witnessIs_114 (by decide) ?_
        refine E_iload_n dX12_witnessIs_116 rfl ?_
        refine E_iadd dX12_witnessIs_117 ?_
        refine E.top (show (36 : Int32) + nI j = nI (36 + j) from by first | exact nI_add 36 j | (rw [show (0 : Int32) = nI 0 from rfl, nI_add, Nat.zero_add])) ?_
        refine E_ialdN dX12_witnessIs_118 rfl (by omega) (by omega) ?_
        refine E.top f3 ?_
        exact E_iret dX12_witnessIs_119 rfl (hq)
      | 6, _ =>
        refine E_iload_n dX12_witnessIs_10 rfl ?_
        refine E_tin (tgt := 120) dX12_witnessIs_11 (by decide) (by decide) rfl (by decide) ?_
        refine E_aload_n dX12_witnessIs_120 rfl ?_
        refine E_getR dX12_witnessIs_121 f_X12_7 (by first | assumption | rfl) (by first | assumption | omega) rfl (by first | exact hR _ _ _ rfl | assumption) ?_
        refine E_bp (48) dX12_witnessIs_124 (by decide) ?_
        refine E_iload_n dX12_witnessIs_126 rfl ?_
        refine E_iadd dX12_witnessIs_127 ?_
        refine E.top (show (48 : Int32) + nI j = nI (48 + j) from by first | exact nI_add 48 j | (rw [show (0 : Int32) = nI 0 from rfl, nI_add, Nat.zero_add])) ?_
        refine E_ialdN dX12_witnessIs_128 rfl (by omega) (by omega) ?_
        refine E.top f4 ?_
        exact E_iret dX12_witnessIs_129 rfl (hq)
      | 7, _ =>
        refine E_iload_n dX12_witnessIs_10 rfl ?_
        refine E_tin (tgt := 130) dX12_witnessIs_11 (by decide) (by decide) rfl (by decide) ?_
        refine E_aload_n dX12_witnessIs_130 rfl ?_
        refine E_iload_n dX12_witnessIs_131 rfl ?_
        refine E_ic (1) dX12_witnessIs_132 (by decide) ?_
        refine E_callV (As := [_, _]) (ci := 11) (kc' := 0) (ks' := 0) (kc := 0) (ks := 0) dX12_witnessIs_133 ok_X12_yearLeft w_X12_350 i_X12_yearLeft s_X12_yearLeft rfl (by decide) (by first | assumption | rfl) (by first | assumption | omega) rfl rfl rfl (Nat.le_of_ble_eq_true rfl) (Nat.le_of_ble_eq_true rfl) (Nat.le_refl _) (m_yearLeft1 (d := 898) hB hM hN hR hj ?_)
        exact E_iret dX12_witnessIs_136 rfl (hq)
      | 8, _ =>
        refine E_iload_n dX12_witnessIs_10 rfl ?_
        refine E_tin (tgt := 137) dX12_witnessIs_11 (by decide) (by decide) rfl (by decide) ?_
        refine E_aload_n dX12_witnessIs_137 rfl ?_
        refine E_iload_n dX12_witnessIs_138 rfl ?_
        refine E_ic (0) dX12_witnessIs_139 (by decide) ?_
        refine E_callV (As := [_, _]) (ci := 11) (kc' := 0) (ks' := 0) (kc := 0) (ks := 0) dX12_witnessIs_140 ok_X12_yearLeft w_X12_350 i_X12_yearLeft s_X12_yearLeft rfl (by decide) (by first | assumption | rfl) (by first | assumption | omega) rfl rfl rfl (Nat.le_of_ble_eq_true rfl) (Nat.le_of_ble_eq_true rfl) (Nat.le_refl _) (m_yearLeft0 (d := 898) hB hM hN hR hj ?_)
        exact E_iret dX12_witnessIs_143 rfl (hq)
      | 9, _ =>
        refine E_iload_n dX12_witnessIs_10 rfl ?_
        refine E_tin (tgt := 144) dX12_witnessIs_11 (by decide) (by decide) rfl (by decide) ?_
        refine E_aload_n dX12_witnessIs_144 rfl ?_
        refine E_iload_n dX12_witnessIs_145 rfl ?_
        refine E_callV (As := [_]) (ci := 11) (kc' := 0) (ks' := 0) (kc := 0) (ks := 0) dX12_witnessIs_146 ok_X12_leftOf w_X12_286 i_X12_leftOf s_X12_leftOf rfl (by decide) (by first | assumption | rfl) (by first | assumption | omega) rfl rfl rfl (Nat.le_of_ble_eq_true rfl) (Nat.le_of_ble_eq_true rfl) (Nat.le_refl _) (m_leftOf (d := 899) hB hM hN hR hj ?_)
        refine E_if_ne (tgt := 156) dX12_witnessIs_149 (by decide) (fun c149 => ?_) (fun c149 => ?_)
        · refine E_aload_n dX12_witnessIs_156 rfl ?_
          refine E_iload_n dX12_witnessIs_157 rfl ?_
          refine E_callV (As := [_]) (ci := 11) (kc' := 0) (ks' := 0) (kc := 0) (ks := 0) dX12_witnessIs_158 ok_X12_sinsLeft w_X12_354 i_X12_sinsLeft s_X12_sinsLeft rfl (by decide) (by first | assumption | rfl) (by first | assumption | omega) rfl rfl rfl (Nat.le_of_ble_eq_true rfl) (Nat.le_of_ble_eq_true rfl) (Nat.le_refl _) (m_sinsLeft (d := 898) hB hM hN hR hj ?_)
          exact E_iret dX12_witnessIs_161 rfl (by first | exact hq | (have e0 : σ 0 j 0 - σ 3 j 3 = 0 := (nI_eq (by omega) (by decide)).mp c149; have hq : Q (some (.int (sinS (σ 2 j) (σ 0 j 0 - σ 3 j 3) (σ 3 j 3) 0))) n I J R := hq; rw [e0] at hq; exact hq))
        · refine E_ic (0) dX12_witnessIs_152 (by decide) ?_
          refine E_goto (tgt := 161) dX12_witnessIs_153 (by decide) ?_
          exact E_iret dX12_witnessIs_161 rfl (by first | exact hq | (have e0 : σ 0 j 0 - σ 3 j 3 = 0 := (nI_eq (by omega) (by decide)).mp c149; have hq : Q (some (.int (sinS (σ 2 j) (σ 0 j 0 - σ 3 j 3) (σ 3 j 3) 0))) n I J R := hq; rw [e0] at hq; exact hq))
      | c + 10, h => exact absurd h (by omega)
  · rw [r_wi_f z] at hq
    refine E_if_ne (tgt := 10) dX12_witnessIs_5 (by decide) (fun c5 => absurd (rfl) c5) (fun c5 => ?_)
    refine E_ic (-1) dX12_witnessIs_8 (by decide) ?_
    exact E_iret dX12_witnessIs_9 rfl (hq)
end PWi
