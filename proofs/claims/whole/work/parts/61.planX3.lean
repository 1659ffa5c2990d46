/-! ===== plan: the class seeks ===== -/
section PPlanZ
variable {g : GL} {n : Nat} {I : IM} {J : JM} {R : RM} {Q : PQ} {σ : ST} {q : LWD}
set_option maxRecDepth 100000 in
set_option maxHeartbeats 2000000 in
theorem x_planA {k yy ww T : Nat} (hB : BND σ) (hq : LWF q) (hl : LXq q I) (hk : k < 12) (h0 : 0 < σ 0 k 0) (hy : yy ≤ 99) (hww : ww ≤ 1) (eT : tgP σ k (nI yy) = nI T) (hT : T ≤ 24) (h5 : σ 3 k 5 = 0) (hX : XR σ 153 I R) (hw : R 37 1 = some 152) (hQ : ∀ I2 : IM, (∀ x, x < 152 → x ≠ 9 → x ≠ 10 → x ≠ 22 → x ≠ 23 → x ≠ 37 → x ≠ 38 → I2 x = I x) → Q (some (.int (anP (skQ q σ k T) (nI ww)))) 153 I2 J (up2 (up2 R 22 1 (some (54 + 5 * k))) 22 2 (some 3))) : E g mX11_plan 900 0 0 0 (ent 5 [.ref 0, .int (nI k), .int (nI yy), .int (nI ww)]) [] 153 I J R Q := by
  have hN := hX.2.2.2.1.n.1
  have hR := hX.2.2.2.1.1
  have s5 := (hB.1 k hk).2.2.1.2.2.2.2.2.1
  have s4 := (hB.1 k hk).2.2.1.2.2.2.2.1
  have n4 := (hB.1 k hk).1
  have hR2 : RS (up2 (up2 R 22 1 (some (54 + 5 * k))) 22 2 (some 3)) := RS.up (RS.up hR rfl) rfl
  have hR3 : RS (up2 (up2 R 22 1 (some (54 + 5 * k))) 22 2 (some 3)) := hR2
  have hO : okD (σ 0 k 0) (bgD (σ 3 k) 99) := by
    obtain ⟨a1, a2, ⟨e0, e1, e2, e3, e4, e5, e6, e7⟩, a4⟩ := hB.1 k hk
    exact ⟨e0, e1, e2, a4, e4, e5, e6, e7, Nat.le_refl _, trivial⟩
  rcases (show ww = 0 ∨ ww = 1 by omega) with rfl | rfl
  · skip
    refine E_aload_n dX11_plan_0 rfl ?_
    refine E_iload_n dX11_plan_1 rfl ?_
    refine E_callV (As := [_]) (ci := 10) (kc' := 0) (ks' := 0) (kc := 0) (ks := 0) dX11_plan_2 ok_X11_isTold w_X11_138 i_X11_isTold s_X11_isTold rfl (by decide) rfl (Nat.lt_of_lt_of_le (by decide) hN) rfl rfl rfl (Nat.le_of_ble_eq_true rfl) (Nat.le_of_ble_eq_true rfl) (Nat.le_refl _) (X_isTold (d := 899) hB hX (fun _ _ _ _ => ?_) (fun z => absurd (tk_of hk h0) z))
    refine E_zN_eq (a := 1) (tgt := 27) dX11_plan_5 (by decide) (by decide) (fun cw5 => absurd cw5 (by omega)) (fun cw5 => ?_)
    refine E_iload_n dX11_plan_8 rfl ?_
    refine E_zN_lt (a := yy) (tgt := 27) dX11_plan_9 (by omega) (by decide) (fun cw9 => cw9.elim) (fun cw9 => ?_)
    refine E_iload_n dX11_plan_12 rfl ?_
    refine E_bp (nI 100) dX11_plan_13 (by decide) ?_
    refine E_cN_ge (a := yy) (b := 100) (tgt := 27) dX11_plan_15 (by omega) (by decide) (by decide) (fun cw15 => absurd cw15 (by omega)) (fun cw15 => ?_)
    refine E_iload_n dX11_plan_18 rfl ?_
    refine E_zN_lt (a := 0) (tgt := 27) dX11_plan_19 (by decide) (by decide) (fun cw19 => cw19.elim) (fun cw19 => ?_)
    refine E_iload_n dX11_plan_22 rfl ?_
    refine E_ic (nI 1) dX11_plan_23 (by decide) ?_
    refine E_cN_le (a := 0) (b := 1) (tgt := 29) dX11_plan_24 (by decide) (by decide) (by decide) (fun cw24 => ?_) (fun cw24 => absurd cw24 (by omega))
    refine E_aload_n dX11_plan_29 rfl ?_
    refine E_getR dX11_plan_30 f_X11_11 rfl (Nat.lt_of_lt_of_le (by decide) hN) rfl (hR _ _ _ rfl) ?_
    refine E_iload_n dX11_plan_33 rfl ?_
    refine E_aaldN dX11_plan_34 rfl (Nat.lt_of_lt_of_le (by decide) hN) (by first | assumption | omega) (hR _ _ _ (RT1 k (by first | assumption | omega))) ?_
    refine E_iload_n dX11_plan_35 rfl ?_
    refine E_callV (As := [_]) (ci := 9) (kc' := 0) (ks' := 0) (kc := 0) (ks := 0) dX11_plan_36 ok_X10_nextOf w_X11_211 i_X10_nextOf s_X10_nextOf rfl (by decide) (LYw k (by first | assumption | omega)).1 (by first | assumption | omega) rfl rfl rfl (Nat.le_of_ble_eq_true rfl) (Nat.le_of_ble_eq_true rfl) (Nat.le_refl _) (x_nextOf (d := 899) hB hX hk ?_)
    refine E.top eT ?_
    refine E_istore dX11_plan_39 (Nat.le_of_ble_eq_true rfl) ?_
    refine E_iload dX11_plan_41 rfl ?_
    refine E_zN_lt (a := T) (tgt := 61) dX11_plan_43 (by omega) (by decide) (fun cw43 => cw43.elim) (fun cw43 => ?_)
    refine E_aload_n dX11_plan_46 rfl ?_
    refine E_getR dX11_plan_47 f_X11_11 rfl (Nat.lt_of_lt_of_le (by decide) hN) rfl (hR _ _ _ rfl) ?_
    refine E_iload_n dX11_plan_50 rfl ?_
    refine E_aaldN dX11_plan_51 rfl (Nat.lt_of_lt_of_le (by decide) hN) (by first | assumption | omega) (hR _ _ _ (RT1 k (by first | assumption | omega))) ?_
    refine E_getR dX11_plan_52 f_X11_146 (LYw k (by first | assumption | omega)).1 (by first | assumption | omega) rfl (hR _ _ _ (RTw k (by first | assumption | omega)).2.2.1) ?_
    refine E_getI dX11_plan_55 f_X11_193 (LYw k (by first | assumption | omega)).2.2.2.1 (by first | assumption | omega) rfl ?_
    refine E.top ((hX.1 k (by first | assumption | omega)).2.2.2.1 5 (by decide)) ?_
    refine E_zN_eq (a := σ 3 k 5) (tgt := 64) dX11_plan_58 (by omega) (by decide) (fun cw58 => ?_) (fun cw58 => absurd cw58 (by omega))
    refine E_aload_n dX11_plan_64 rfl ?_
    refine E_getR dX11_plan_65 f_X11_47 rfl (Nat.lt_of_lt_of_le (by decide) hN) rfl (hR _ _ _ rfl) ?_
    refine E_iload_n dX11_plan_68 rfl ?_
    refine E_aload_n dX11_plan_69 rfl ?_
    refine E_getR dX11_plan_70 f_X11_11 rfl (Nat.lt_of_lt_of_le (by decide) hN) rfl (hR _ _ _ rfl) ?_
    refine E_iload_n dX11_plan_73 rfl ?_
    refine E_aaldN dX11_plan_74 rfl (Nat.lt_of_lt_of_le (by decide) hN) (by first | assumption | omega) (hR _ _ _ (RT1 k (by first | assumption | omega))) ?_
    refine E_aload_n dX11_plan_75 rfl ?_
    refine E_getR dX11_plan_76 f_X11_26 rfl (Nat.lt_of_lt_of_le (by decide) hN) rfl (hR _ _ _ rfl) ?_
    refine E_bp (nI 99) dX11_plan_79 (by decide) ?_
    refine E_aload_n dX11_plan_81 rfl ?_
    refine E_getI dX11_plan_82 f_X11_92 rfl (Nat.lt_of_lt_of_le (by decide) hN) rfl ?_
    refine E.top (hX.2.1.2.2.2.1) ?_
    refine E_callV (As := [_, _, _, _, _]) (ci := 0) (kc' := 0) (ks' := 0) (kc := 0) (ks := 0) dX11_plan_85 ok_X0_begin w_X11_215 i_X0_begin s_X0_begin rfl (by decide) rfl (Nat.lt_of_lt_of_le (by decide) hN) rfl rfl rfl (Nat.le_of_ble_eq_true rfl) (Nat.le_of_ble_eq_true rfl) (Nat.le_refl _) (x_begin (d := 898) (sc := 99) (l := σ 4 2 0) (s := σ 3 k) hN hR hk (fun j hj => (hX.1 k hk).2.2.2.1 j hj) s4 s5 (fun I1 f1 k1 d1 l1 b1 => ?_))
    have hB1 : BXc k (σ 0 k 0) (σ 1 k) (σ 2 k) q I1 (up2 (up2 R 22 1 (some (54 + 5 * k))) 22 2 (some 3)) := ⟨rfl, rfl, k1, (congrFun (f1 (54 + 5 * k) (by omega) (by omega)) 4).trans (hX.1 k hk).1, fun i hi => by rw [f1 (55 + 5 * k) (by omega) (by omega), f1 (56 + 5 * k) (by omega) (by omega)]; exact (hX.1 k hk).2.2.1 i hi, hl.keep (fun a a1 a2 => f1 a (by omega) (by omega))⟩
    refine E_aload_n dX11_plan_88 rfl ?_
    refine E_getR dX11_plan_89 f_X11_54 rfl (Nat.lt_of_lt_of_le (by decide) hN) rfl (hR2 _ _ _ rfl) ?_
    refine E_aload_n dX11_plan_92 rfl ?_
    refine E_getR dX11_plan_93 f_X11_47 rfl (Nat.lt_of_lt_of_le (by decide) hN) rfl (hR2 _ _ _ rfl) ?_
    refine E_iload dX11_plan_96 rfl ?_
    refine E_callV (As := [_, _]) (ci := 5) (kc' := 0) (ks' := 0) (kc := 0) (ks := 0) dX11_plan_98 ok_X6_seek w_X11_219 i_X6_seek s_X6_seek rfl (by decide) rfl (Nat.lt_of_lt_of_le (by decide) hN) rfl rfl rfl (Nat.le_of_ble_eq_true rfl) (Nat.le_of_ble_eq_true rfl) (Nat.le_refl _) (x_seekA (d := 892) (D := bgD (σ 3 k) 99) hR2 hk hq n4 hT hO h5 hB1 d1 ((congrFun (up2_o _ 22 2 _ 37 (by decide)) 1).trans ((congrFun (up2_o _ 22 1 _ 37 (by decide)) 1).trans hw)) (fun I2 f2 z3 v3 w3 => ?_) (fun I2 f2 z3 => ?_))
    · have fr : (∀ x, x < 152 → x ≠ 9 → x ≠ 10 → x ≠ 22 → x ≠ 23 → x ≠ 37 → x ≠ 38 → I2 x = I x) := fun x z a b c d e f => (f2 x z a b c d e f).trans (f1 x c d)
      have hN : 152 ≤ 153 := by decide
      refine E_zN_ne (a := 1) (tgt := 107) dX11_plan_101 (by decide) (by decide) (fun cw101 => ?_) (fun cw101 => absurd cw101 (by omega))
      refine E_iload_n dX11_plan_107 rfl ?_
      refine E_zN_ne (a := 0) (tgt := 121) dX11_plan_108 (by decide) (by decide) (fun cw108 => absurd cw108 (by omega)) (fun cw108 => ?_)
      refine E_aload_n dX11_plan_111 rfl ?_
      refine E_getR dX11_plan_112 f_X11_54 rfl (Nat.lt_of_lt_of_le (by decide) hN) rfl (hR3 _ _ _ rfl) ?_
      refine E_getI dX11_plan_115 f_X11_223 rfl (Nat.lt_of_lt_of_le (by decide) hN) rfl ?_
      refine E.top (v3) ?_
      refine E_goto (tgt := 128) dX11_plan_118 (by decide) ?_
      exact E_iret dX11_plan_128 rfl (by rw [show anP (skQ q σ k T) (nI 0) = nI ((skQ q σ k T - 1) / 8) from (if_neg z3).trans (if_pos rfl)] at hQ; exact hQ I2 fr)
    · have fr : (∀ x, x < 152 → x ≠ 9 → x ≠ 10 → x ≠ 22 → x ≠ 23 → x ≠ 37 → x ≠ 38 → I2 x = I x) := fun x z a b c d e f => (f2 x z a b c d e f).trans (f1 x c d)
      refine E_zN_ne (a := 0) (tgt := 107) dX11_plan_101 (by decide) (by decide) (fun cw101 => absurd cw101 (by omega)) (fun cw101 => ?_)
      refine E_bp (-3) dX11_plan_104 (by decide) ?_
      exact E_iret dX11_plan_106 rfl (by rw [show anP (skQ q σ k T) (nI 0) = -3 from if_pos z3] at hQ; exact hQ I2 fr)
  · skip
    refine E_aload_n dX11_plan_0 rfl ?_
    refine E_iload_n dX11_plan_1 rfl ?_
    refine E_callV (As := [_]) (ci := 10) (kc' := 0) (ks' := 0) (kc := 0) (ks := 0) dX11_plan_2 ok_X11_isTold w_X11_138 i_X11_isTold s_X11_isTold rfl (by decide) rfl (Nat.lt_of_lt_of_le (by decide) hN) rfl rfl rfl (Nat.le_of_ble_eq_true rfl) (Nat.le_of_ble_eq_true rfl) (Nat.le_refl _) (X_isTold (d := 899) hB hX (fun _ _ _ _ => ?_) (fun z => absurd (tk_of hk h0) z))
    refine E_zN_eq (a := 1) (tgt := 27) dX11_plan_5 (by decide) (by decide) (fun cw5 => absurd cw5 (by omega)) (fun cw5 => ?_)
    refine E_iload_n dX11_plan_8 rfl ?_
    refine E_zN_lt (a := yy) (tgt := 27) dX11_plan_9 (by omega) (by decide) (fun cw9 => cw9.elim) (fun cw9 => ?_)
    refine E_iload_n dX11_plan_12 rfl ?_
    refine E_bp (nI 100) dX11_plan_13 (by decide) ?_
    refine E_cN_ge (a := yy) (b := 100) (tgt := 27) dX11_plan_15 (by omega) (by decide) (by decide) (fun cw15 => absurd cw15 (by omega)) (fun cw15 => ?_)
    refine E_iload_n dX11_plan_18 rfl ?_
    refine E_zN_lt (a := 1) (tgt := 27) dX11_plan_19 (by decide) (by decide) (fun cw19 => cw19.elim) (fun cw19 => ?_)
    refine E_iload_n dX11_plan_22 rfl ?_
    refine E_ic (nI 1) dX11_plan_23 (by decide) ?_
    refine E_cN_le (a := 1) (b := 1) (tgt := 29) dX11_plan_24 (by decide) (by decide) (by decide) (fun cw24 => ?_) (fun cw24 => absurd cw24 (by omega))
    refine E_aload_n dX11_plan_29 rfl ?_
    refine E_getR dX11_plan_30 f_X11_11 rfl (Nat.lt_of_lt_of_le (by decide) hN) rfl (hR _ _ _ rfl) ?_
    refine E_iload_n dX11_plan_33 rfl ?_
    refine E_aaldN dX11_plan_34 rfl (Nat.lt_of_lt_of_le (by decide) hN) (by first | assumption | omega) (hR _ _ _ (RT1 k (by first | assumption | omega))) ?_
    refine E_iload_n dX11_plan_35 rfl ?_
    refine E_callV (As := [_]) (ci := 9) (kc' := 0) (ks' := 0) (kc := 0) (ks := 0) dX11_plan_36 ok_X10_nextOf w_X11_211 i_X10_nextOf s_X10_nextOf rfl (by decide) (LYw k (by first | assumption | omega)).1 (by first | assumption | omega) rfl rfl rfl (Nat.le_of_ble_eq_true rfl) (Nat.le_of_ble_eq_true rfl) (Nat.le_refl _) (x_nextOf (d := 899) hB hX hk ?_)
    refine E.top eT ?_
    refine E_istore dX11_plan_39 (Nat.le_of_ble_eq_true rfl) ?_
    refine E_iload dX11_plan_41 rfl ?_
    refine E_zN_lt (a := T) (tgt := 61) dX11_plan_43 (by omega) (by decide) (fun cw43 => cw43.elim) (fun cw43 => ?_)
    refine E_aload_n dX11_plan_46 rfl ?_
    refine E_getR dX11_plan_47 f_X11_11 rfl (Nat.lt_of_lt_of_le (by decide) hN) rfl (hR _ _ _ rfl) ?_
    refine E_iload_n dX11_plan_50 rfl ?_
    refine E_aaldN dX11_plan_51 rfl (Nat.lt_of_lt_of_le (by decide) hN) (by first | assumption | omega) (hR _ _ _ (RT1 k (by first | assumption | omega))) ?_
    refine E_getR dX11_plan_52 f_X11_146 (LYw k (by first | assumption | omega)).1 (by first | assumption | omega) rfl (hR _ _ _ (RTw k (by first | assumption | omega)).2.2.1) ?_
    refine E_getI dX11_plan_55 f_X11_193 (LYw k (by first | assumption | omega)).2.2.2.1 (by first | assumption | omega) rfl ?_
    refine E.top ((hX.1 k (by first | assumption | omega)).2.2.2.1 5 (by decide)) ?_
    refine E_zN_eq (a := σ 3 k 5) (tgt := 64) dX11_plan_58 (by omega) (by decide) (fun cw58 => ?_) (fun cw58 => absurd cw58 (by omega))
    refine E_aload_n dX11_plan_64 rfl ?_
    refine E_getR dX11_plan_65 f_X11_47 rfl (Nat.lt_of_lt_of_le (by decide) hN) rfl (hR _ _ _ rfl) ?_
    refine E_iload_n dX11_plan_68 rfl ?_
    refine E_aload_n dX11_plan_69 rfl ?_
    refine E_getR dX11_plan_70 f_X11_11 rfl (Nat.lt_of_lt_of_le (by decide) hN) rfl (hR _ _ _ rfl) ?_
    refine E_iload_n dX11_plan_73 rfl ?_
    refine E_aaldN dX11_plan_74 rfl (Nat.lt_of_lt_of_le (by decide) hN) (by first | assumption | omega) (hR _ _ _ (RT1 k (by first | assumption | omega))) ?_
    refine E_aload_n dX11_plan_75 rfl ?_
    refine E_getR dX11_plan_76 f_X11_26 rfl (Nat.lt_of_lt_of_le (by decide) hN) rfl (hR _ _ _ rfl) ?_
    refine E_bp (nI 99) dX11_plan_79 (by decide) ?_
    refine E_aload_n dX11_plan_81 rfl ?_
    refine E_getI dX11_plan_82 f_X11_92 rfl (Nat.lt_of_lt_of_le (by decide) hN) rfl ?_
    refine E.top (hX.2.1.2.2.2.1) ?_
    refine E_callV (As := [_, _, _, _, _]) (ci := 0) (kc' := 0) (ks' := 0) (kc := 0) (ks := 0) dX11_plan_85 ok_X0_begin w_X11_215 i_X0_begin s_X0_begin rfl (by decide) rfl (Nat.lt_of_lt_of_le (by decide) hN) rfl rfl rfl (Nat.le_of_ble_eq_true rfl) (Nat.le_of_ble_eq_true rfl) (Nat.le_refl _) (x_begin (d := 898) (sc := 99) (l := σ 4 2 0) (s := σ 3 k) hN hR hk (fun j hj => (hX.1 k hk).2.2.2.1 j hj) s4 s5 (fun I1 f1 k1 d1 l1 b1 => ?_))
    have hB1 : BXc k (σ 0 k 0) (σ 1 k) (σ 2 k) q I1 (up2 (up2 R 22 1 (some (54 + 5 * k))) 22 2 (some 3)) := ⟨rfl, rfl, k1, (congrFun (f1 (54 + 5 * k) (by omega) (by omega)) 4).trans (hX.1 k hk).1, fun i hi => by rw [f1 (55 + 5 * k) (by omega) (by omega), f1 (56 + 5 * k) (by omega) (by omega)]; exact (hX.1 k hk).2.2.1 i hi, hl.keep (fun a a1 a2 => f1 a (by omega) (by omega))⟩
    refine E_aload_n dX11_plan_88 rfl ?_
    refine E_getR dX11_plan_89 f_X11_54 rfl (Nat.lt_of_lt_of_le (by decide) hN) rfl (hR2 _ _ _ rfl) ?_
    refine E_aload_n dX11_plan_92 rfl ?_
    refine E_getR dX11_plan_93 f_X11_47 rfl (Nat.lt_of_lt_of_le (by decide) hN) rfl (hR2 _ _ _ rfl) ?_
    refine E_iload dX11_plan_96 rfl ?_
    refine E_callV (As := [_, _]) (ci := 5) (kc' := 0) (ks' := 0) (kc := 0) (ks := 0) dX11_plan_98 ok_X6_seek w_X11_219 i_X6_seek s_X6_seek rfl (by decide) rfl (Nat.lt_of_lt_of_le (by decide) hN) rfl rfl rfl (Nat.le_of_ble_eq_true rfl) (Nat.le_of_ble_eq_true rfl) (Nat.le_refl _) (x_seekA (d := 892) (D := bgD (σ 3 k) 99) hR2 hk hq n4 hT hO h5 hB1 d1 ((congrFun (up2_o _ 22 2 _ 37 (by decide)) 1).trans ((congrFun (up2_o _ 22 1 _ 37 (by decide)) 1).trans hw)) (fun I2 f2 z3 v3 w3 => ?_) (fun I2 f2 z3 => ?_))
    · have fr : (∀ x, x < 152 → x ≠ 9 → x ≠ 10 → x ≠ 22 → x ≠ 23 → x ≠ 37 → x ≠ 38 → I2 x = I x) := fun x z a b c d e f => (f2 x z a b c d e f).trans (f1 x c d)
      have hN : 152 ≤ 153 := by decide
      refine E_zN_ne (a := 1) (tgt := 107) dX11_plan_101 (by decide) (by decide) (fun cw101 => ?_) (fun cw101 => absurd cw101 (by omega))
      refine E_iload_n dX11_plan_107 rfl ?_
      refine E_zN_ne (a := 1) (tgt := 121) dX11_plan_108 (by decide) (by decide) (fun cw108 => ?_) (fun cw108 => absurd cw108 (by omega))
      refine E_aload_n dX11_plan_121 rfl ?_
      refine E_getR dX11_plan_122 f_X11_54 rfl (Nat.lt_of_lt_of_le (by decide) hN) rfl (hR3 _ _ _ rfl) ?_
      refine E_getI dX11_plan_125 f_X11_226 rfl (Nat.lt_of_lt_of_le (by decide) hN) rfl ?_
      refine E.top (w3) ?_
      exact E_iret dX11_plan_128 rfl (by rw [show anP (skQ q σ k T) (nI 1) = nI ((skQ q σ k T - 1) % 8) from (if_neg z3).trans (if_neg (by decide))] at hQ; exact hQ I2 fr)
    · have fr : (∀ x, x < 152 → x ≠ 9 → x ≠ 10 → x ≠ 22 → x ≠ 23 → x ≠ 37 → x ≠ 38 → I2 x = I x) := fun x z a b c d e f => (f2 x z a b c d e f).trans (f1 x c d)
      refine E_zN_ne (a := 0) (tgt := 107) dX11_plan_101 (by decide) (by decide) (fun cw101 => absurd cw101 (by omega)) (fun cw101 => ?_)
      refine E_bp (-3) dX11_plan_104 (by decide) ?_
      exact E_iret dX11_plan_106 rfl (by rw [show anP (skQ q σ k T) (nI 1) = -3 from if_pos z3] at hQ; exact hQ I2 fr)
set_option maxRecDepth 100000 in
set_option maxHeartbeats 2000000 in
theorem x_planB {k yy ww T : Nat} (hB : BND σ) (hq : LWF q) (hl : LXq q I) (hk : k < 12) (h0 : 0 < σ 0 k 0) (hy : yy ≤ 99) (hww : ww ≤ 1) (eT : tgP σ k (nI yy) = nI T) (hT : T ≤ 24) (h5 : σ 3 k 5 = 0) (hX : XR σ 152 I R) (hw : R 37 1 = some 39) (hQ : ∀ I2 : IM, (∀ x, x < 152 → x ≠ 9 → x ≠ 10 → x ≠ 22 → x ≠ 23 → x ≠ 37 → x ≠ 38 → I2 x = I x) → Q (some (.int (anP (skQ q σ k T) (nI ww)))) 153 I2 J (up2 (up2 (up2 R 22 1 (some (54 + 5 * k))) 22 2 (some 3)) 37 1 (some 152))) : E g mX11_plan 900 1 49500 0 (ent 5 [.ref 0, .int (nI k), .int (nI yy), .int (nI ww)]) [] 152 I J R Q := by
  have hN := hX.2.2.2.1.n.1
  have hR := hX.2.2.2.1.1
  have s5 := (hB.1 k hk).2.2.1.2.2.2.2.2.1
  have s4 := (hB.1 k hk).2.2.1.2.2.2.2.1
  have n4 := (hB.1 k hk).1
  have hR2 : RS (up2 (up2 R 22 1 (some (54 + 5 * k))) 22 2 (some 3)) := RS.up (RS.up hR rfl) rfl
  have hR3 : RS (up2 (up2 (up2 R 22 1 (some (54 + 5 * k))) 22 2 (some 3)) 37 1 (some 152)) := RS.up hR2 rfl
  have hO : okD (σ 0 k 0) (bgD (σ 3 k) 99) := by
    obtain ⟨a1, a2, ⟨e0, e1, e2, e3, e4, e5, e6, e7⟩, a4⟩ := hB.1 k hk
    exact ⟨e0, e1, e2, a4, e4, e5, e6, e7, Nat.le_refl _, trivial⟩
  rcases (show ww = 0 ∨ ww = 1 by omega) with rfl | rfl
  · skip
    refine E_aload_n dX11_plan_0 rfl ?_
    refine E_iload_n dX11_plan_1 rfl ?_
    refine E_callV (As := [_]) (ci := 10) (kc' := 0) (ks' := 0) (kc := 1) (ks := 49500) dX11_plan_2 ok_X11_isTold w_X11_138 i_X11_isTold s_X11_isTold rfl (by decide) rfl (Nat.lt_of_lt_of_le (by decide) hN) rfl rfl rfl (Nat.le_of_ble_eq_true rfl) (Nat.le_of_ble_eq_true rfl) (Nat.le_refl _) (X_isTold (d := 899) hB hX (fun _ _ _ _ => ?_) (fun z => absurd (tk_of hk h0) z))
    refine E_zN_eq (a := 1) (tgt := 27) dX11_plan_5 (by decide) (by decide) (fun cw5 => absurd cw5 (by omega)) (fun cw5 => ?_)
    refine E_iload_n dX11_plan_8 rfl ?_
    refine E_zN_lt (a := yy) (tgt := 27) dX11_plan_9 (by omega) (by decide) (fun cw9 => cw9.elim) (fun cw9 => ?_)
    refine E_iload_n dX11_plan_12 rfl ?_
    refine E_bp (nI 100) dX11_plan_13 (by decide) ?_
    refine E_cN_ge (a := yy) (b := 100) (tgt := 27) dX11_plan_15 (by omega) (by decide) (by decide) (fun cw15 => absurd cw15 (by omega)) (fun cw15 => ?_)
    refine E_iload_n dX11_plan_18 rfl ?_
    refine E_zN_lt (a := 0) (tgt := 27) dX11_plan_19 (by decide) (by decide) (fun cw19 => cw19.elim) (fun cw19 => ?_)
    refine E_iload_n dX11_plan_22 rfl ?_
    refine E_ic (nI 1) dX11_plan_23 (by decide) ?_
    refine E_cN_le (a := 0) (b := 1) (tgt := 29) dX11_plan_24 (by decide) (by decide) (by decide) (fun cw24 => ?_) (fun cw24 => absurd cw24 (by omega))
    refine E_aload_n dX11_plan_29 rfl ?_
    refine E_getR dX11_plan_30 f_X11_11 rfl (Nat.lt_of_lt_of_le (by decide) hN) rfl (hR _ _ _ rfl) ?_
    refine E_iload_n dX11_plan_33 rfl ?_
    refine E_aaldN dX11_plan_34 rfl (Nat.lt_of_lt_of_le (by decide) hN) (by first | assumption | omega) (hR _ _ _ (RT1 k (by first | assumption | omega))) ?_
    refine E_iload_n dX11_plan_35 rfl ?_
    refine E_callV (As := [_]) (ci := 9) (kc' := 0) (ks' := 0) (kc := 1) (ks := 49500) dX11_plan_36 ok_X10_nextOf w_X11_211 i_X10_nextOf s_X10_nextOf rfl (by decide) (LYw k (by first | assumption | omega)).1 (by first | assumption | omega) rfl rfl rfl (Nat.le_of_ble_eq_true rfl) (Nat.le_of_ble_eq_true rfl) (Nat.le_refl _) (x_nextOf (d := 899) hB hX hk ?_)
    refine E.top eT ?_
    refine E_istore dX11_plan_39 (Nat.le_of_ble_eq_true rfl) ?_
    refine E_iload dX11_plan_41 rfl ?_
    refine E_zN_lt (a := T) (tgt := 61) dX11_plan_43 (by omega) (by decide) (fun cw43 => cw43.elim) (fun cw43 => ?_)
    refine E_aload_n dX11_plan_46 rfl ?_
    refine E_getR dX11_plan_47 f_X11_11 rfl (Nat.lt_of_lt_of_le (by decide) hN) rfl (hR _ _ _ rfl) ?_
    refine E_iload_n dX11_plan_50 rfl ?_
    refine E_aaldN dX11_plan_51 rfl (Nat.lt_of_lt_of_le (by decide) hN) (by first | assumption | omega) (hR _ _ _ (RT1 k (by first | assumption | omega))) ?_
    refine E_getR dX11_plan_52 f_X11_146 (LYw k (by first | assumption | omega)).1 (by first | assumption | omega) rfl (hR _ _ _ (RTw k (by first | assumption | omega)).2.2.1) ?_
    refine E_getI dX11_plan_55 f_X11_193 (LYw k (by first | assumption | omega)).2.2.2.1 (by first | assumption | omega) rfl ?_
    refine E.top ((hX.1 k (by first | assumption | omega)).2.2.2.1 5 (by decide)) ?_
    refine E_zN_eq (a := σ 3 k 5) (tgt := 64) dX11_plan_58 (by omega) (by decide) (fun cw58 => ?_) (fun cw58 => absurd cw58 (by omega))
    refine E_aload_n dX11_plan_64 rfl ?_
    refine E_getR dX11_plan_65 f_X11_47 rfl (Nat.lt_of_lt_of_le (by decide) hN) rfl (hR _ _ _ rfl) ?_
    refine E_iload_n dX11_plan_68 rfl ?_
    refine E_aload_n dX11_plan_69 rfl ?_
    refine E_getR dX11_plan_70 f_X11_11 rfl (Nat.lt_of_lt_of_le (by decide) hN) rfl (hR _ _ _ rfl) ?_
    refine E_iload_n dX11_plan_73 rfl ?_
    refine E_aaldN dX11_plan_74 rfl (Nat.lt_of_lt_of_le (by decide) hN) (by first | assumption | omega) (hR _ _ _ (RT1 k (by first | assumption | omega))) ?_
    refine E_aload_n dX11_plan_75 rfl ?_
    refine E_getR dX11_plan_76 f_X11_26 rfl (Nat.lt_of_lt_of_le (by decide) hN) rfl (hR _ _ _ rfl) ?_
    refine E_bp (nI 99) dX11_plan_79 (by decide) ?_
    refine E_aload_n dX11_plan_81 rfl ?_
    refine E_getI dX11_plan_82 f_X11_92 rfl (Nat.lt_of_lt_of_le (by decide) hN) rfl ?_
    refine E.top (hX.2.1.2.2.2.1) ?_
    refine E_callV (As := [_, _, _, _, _]) (ci := 0) (kc' := 0) (ks' := 0) (kc := 1) (ks := 49500) dX11_plan_85 ok_X0_begin w_X11_215 i_X0_begin s_X0_begin rfl (by decide) rfl (Nat.lt_of_lt_of_le (by decide) hN) rfl rfl rfl (Nat.le_of_ble_eq_true rfl) (Nat.le_of_ble_eq_true rfl) (Nat.le_refl _) (x_begin (d := 898) (sc := 99) (l := σ 4 2 0) (s := σ 3 k) hN hR hk (fun j hj => (hX.1 k hk).2.2.2.1 j hj) s4 s5 (fun I1 f1 k1 d1 l1 b1 => ?_))
    have hB1 : BXc k (σ 0 k 0) (σ 1 k) (σ 2 k) q I1 (up2 (up2 R 22 1 (some (54 + 5 * k))) 22 2 (some 3)) := ⟨rfl, rfl, k1, (congrFun (f1 (54 + 5 * k) (by omega) (by omega)) 4).trans (hX.1 k hk).1, fun i hi => by rw [f1 (55 + 5 * k) (by omega) (by omega), f1 (56 + 5 * k) (by omega) (by omega)]; exact (hX.1 k hk).2.2.1 i hi, hl.keep (fun a a1 a2 => f1 a (by omega) (by omega))⟩
    refine E_aload_n dX11_plan_88 rfl ?_
    refine E_getR dX11_plan_89 f_X11_54 rfl (Nat.lt_of_lt_of_le (by decide) hN) rfl (hR2 _ _ _ rfl) ?_
    refine E_aload_n dX11_plan_92 rfl ?_
    refine E_getR dX11_plan_93 f_X11_47 rfl (Nat.lt_of_lt_of_le (by decide) hN) rfl (hR2 _ _ _ rfl) ?_
    refine E_iload dX11_plan_96 rfl ?_
    refine E_callV (As := [_, _]) (ci := 5) (kc' := 1) (ks' := 49500) (kc := 0) (ks := 0) dX11_plan_98 ok_X6_seek w_X11_219 i_X6_seek s_X6_seek rfl (by decide) rfl (Nat.lt_of_lt_of_le (by decide) hN) rfl rfl rfl (Nat.le_of_ble_eq_true rfl) (Nat.le_of_ble_eq_true rfl) (Nat.le_refl _) (x_seekB (d := 892) (D := bgD (σ 3 k) 99) hR2 hk hq n4 hT hO h5 hB1 d1 ((congrFun (up2_o _ 22 2 _ 37 (by decide)) 1).trans ((congrFun (up2_o _ 22 1 _ 37 (by decide)) 1).trans hw)) (fun I2 f2 z3 v3 w3 => ?_) (fun I2 f2 z3 => ?_))
    · have fr : (∀ x, x < 152 → x ≠ 9 → x ≠ 10 → x ≠ 22 → x ≠ 23 → x ≠ 37 → x ≠ 38 → I2 x = I x) := fun x z a b c d e f => (f2 x z a b c d e f).trans (f1 x c d)
      have hN : 152 ≤ 153 := by decide
      refine E_zN_ne (a := 1) (tgt := 107) dX11_plan_101 (by decide) (by decide) (fun cw101 => ?_) (fun cw101 => absurd cw101 (by omega))
      refine E_iload_n dX11_plan_107 rfl ?_
      refine E_zN_ne (a := 0) (tgt := 121) dX11_plan_108 (by decide) (by decide) (fun cw108 => absurd cw108 (by omega)) (fun cw108 => ?_)
      refine E_aload_n dX11_plan_111 rfl ?_
      refine E_getR dX11_plan_112 f_X11_54 rfl (Nat.lt_of_lt_of_le (by decide) hN) rfl (hR3 _ _ _ rfl) ?_
      refine E_getI dX11_plan_115 f_X11_223 rfl (Nat.lt_of_lt_of_le (by decide) hN) rfl ?_
      refine E.top (v3) ?_
      refine E_goto (tgt := 128) dX11_plan_118 (by decide) ?_
      exact E_iret dX11_plan_128 rfl (by rw [show anP (skQ q σ k T) (nI 0) = nI ((skQ q σ k T - 1) / 8) from (if_neg z3).trans (if_pos rfl)] at hQ; exact hQ I2 fr)
    · have fr : (∀ x, x < 152 → x ≠ 9 → x ≠ 10 → x ≠ 22 → x ≠ 23 → x ≠ 37 → x ≠ 38 → I2 x = I x) := fun x z a b c d e f => (f2 x z a b c d e f).trans (f1 x c d)
      refine E_zN_ne (a := 0) (tgt := 107) dX11_plan_101 (by decide) (by decide) (fun cw101 => absurd cw101 (by omega)) (fun cw101 => ?_)
      refine E_bp (-3) dX11_plan_104 (by decide) ?_
      exact E_iret dX11_plan_106 rfl (by rw [show anP (skQ q σ k T) (nI 0) = -3 from if_pos z3] at hQ; exact hQ I2 fr)
  · skip
    refine E_aload_n dX11_plan_0 rfl ?_
    refine E_iload_n dX11_plan_1 rfl ?_
    refine E_callV (As := [_]) (ci := 10) (kc' := 0) (ks' := 0) (kc := 1) (ks := 49500) dX11_plan_2 ok_X11_isTold w_X11_138 i_X11_isTold s_X11_isTold rfl (by decide) rfl (Nat.lt_of_lt_of_le (by decide) hN) rfl rfl rfl (Nat.le_of_ble_eq_true rfl) (Nat.le_of_ble_eq_true rfl) (Nat.le_refl _) (X_isTold (d := 899) hB hX (fun _ _ _ _ => ?_) (fun z => absurd (tk_of hk h0) z))
    refine E_zN_eq (a := 1) (tgt := 27) dX11_plan_5 (by decide) (by decide) (fun cw5 => absurd cw5 (by omega)) (fun cw5 => ?_)
    refine E_iload_n dX11_plan_8 rfl ?_
    refine E_zN_lt (a := yy) (tgt := 27) dX11_plan_9 (by omega) (by decide) (fun cw9 => cw9.elim) (fun cw9 => ?_)
    refine E_iload_n dX11_plan_12 rfl ?_
    refine E_bp (nI 100) dX11_plan_13 (by decide) ?_
    refine E_cN_ge (a := yy) (b := 100) (tgt := 27) dX11_plan_15 (by omega) (by decide) (by decide) (fun cw15 => absurd cw15 (by omega)) (fun cw15 => ?_)
    refine E_iload_n dX11_plan_18 rfl ?_
    refine E_zN_lt (a := 1) (tgt := 27) dX11_plan_19 (by decide) (by decide) (fun cw19 => cw19.elim) (fun cw19 => ?_)
    refine E_iload_n dX11_plan_22 rfl ?_
    refine E_ic (nI 1) dX11_plan_23 (by decide) ?_
    refine E_cN_le (a := 1) (b := 1) (tgt := 29) dX11_plan_24 (by decide) (by decide) (by decide) (fun cw24 => ?_) (fun cw24 => absurd cw24 (by omega))
    refine E_aload_n dX11_plan_29 rfl ?_
    refine E_getR dX11_plan_30 f_X11_11 rfl (Nat.lt_of_lt_of_le (by decide) hN) rfl (hR _ _ _ rfl) ?_
    refine E_iload_n dX11_plan_33 rfl ?_
    refine E_aaldN dX11_plan_34 rfl (Nat.lt_of_lt_of_le (by decide) hN) (by first | assumption | omega) (hR _ _ _ (RT1 k (by first | assumption | omega))) ?_
    refine E_iload_n dX11_plan_35 rfl ?_
    refine E_callV (As := [_]) (ci := 9) (kc' := 0) (ks' := 0) (kc := 1) (ks := 49500) dX11_plan_36 ok_X10_nextOf w_X11_211 i_X10_nextOf s_X10_nextOf rfl (by decide) (LYw k (by first | assumption | omega)).1 (by first | assumption | omega) rfl rfl rfl (Nat.le_of_ble_eq_true rfl) (Nat.le_of_ble_eq_true rfl) (Nat.le_refl _) (x_nextOf (d := 899) hB hX hk ?_)
    refine E.top eT ?_
    refine E_istore dX11_plan_39 (Nat.le_of_ble_eq_true rfl) ?_
    refine E_iload dX11_plan_41 rfl ?_
    refine E_zN_lt (a := T) (tgt := 61) dX11_plan_43 (by omega) (by decide) (fun cw43 => cw43.elim) (fun cw43 => ?_)
    refine E_aload_n dX11_plan_46 rfl ?_
    refine E_getR dX11_plan_47 f_X11_11 rfl (Nat.lt_of_lt_of_le (by decide) hN) rfl (hR _ _ _ rfl) ?_
    refine E_iload_n dX11_plan_50 rfl ?_
    refine E_aaldN dX11_plan_51 rfl (Nat.lt_of_lt_of_le (by decide) hN) (by first | assumption | omega) (hR _ _ _ (RT1 k (by first | assumption | omega))) ?_
    refine E_getR dX11_plan_52 f_X11_146 (LYw k (by first | assumption | omega)).1 (by first | assumption | omega) rfl (hR _ _ _ (RTw k (by first | assumption | omega)).2.2.1) ?_
    refine E_getI dX11_plan_55 f_X11_193 (LYw k (by first | assumption | omega)).2.2.2.1 (by first | assumption | omega) rfl ?_
    refine E.top ((hX.1 k (by first | assumption | omega)).2.2.2.1 5 (by decide)) ?_
    refine E_zN_eq (a := σ 3 k 5) (tgt := 64) dX11_plan_58 (by omega) (by decide) (fun cw58 => ?_) (fun cw58 => absurd cw58 (by omega))
    refine E_aload_n dX11_plan_64 rfl ?_
    refine E_getR dX11_plan_65 f_X11_47 rfl (Nat.lt_of_lt_of_le (by decide) hN) rfl (hR _ _ _ rfl) ?_
    refine E_iload_n dX11_plan_68 rfl ?_
    refine E_aload_n dX11_plan_69 rfl ?_
    refine E_getR dX11_plan_70 f_X11_11 rfl (Nat.lt_of_lt_of_le (by decide) hN) rfl (hR _ _ _ rfl) ?_
    refine E_iload_n dX11_plan_73 rfl ?_
    refine E_aaldN dX11_plan_74 rfl (Nat.lt_of_lt_of_le (by decide) hN) (by first | assumption | omega) (hR _ _ _ (RT1 k (by first | assumption | omega))) ?_
    refine E_aload_n dX11_plan_75 rfl ?_
    refine E_getR dX11_plan_76 f_X11_26 rfl (Nat.lt_of_lt_of_le (by decide) hN) rfl (hR _ _ _ rfl) ?_
    refine E_bp (nI 99) dX11_plan_79 (by decide) ?_
    refine E_aload_n dX11_plan_81 rfl ?_
    refine E_getI dX11_plan_82 f_X11_92 rfl (Nat.lt_of_lt_of_le (by decide) hN) rfl ?_
    refine E.top (hX.2.1.2.2.2.1) ?_
    refine E_callV (As := [_, _, _, _, _]) (ci := 0) (kc' := 0) (ks' := 0) (kc := 1) (ks := 49500) dX11_plan_85 ok_X0_begin w_X11_215 i_X0_begin s_X0_begin rfl (by decide) rfl (Nat.lt_of_lt_of_le (by decide) hN) rfl rfl rfl (Nat.le_of_ble_eq_true rfl) (Nat.le_of_ble_eq_true rfl) (Nat.le_refl _) (x_begin (d := 898) (sc := 99) (l := σ 4 2 0) (s := σ 3 k) hN hR hk (fun j hj => (hX.1 k hk).2.2.2.1 j hj) s4 s5 (fun I1 f1 k1 d1 l1 b1 => ?_))
    have hB1 : BXc k (σ 0 k 0) (σ 1 k) (σ 2 k) q I1 (up2 (up2 R 22 1 (some (54 + 5 * k))) 22 2 (some 3)) := ⟨rfl, rfl, k1, (congrFun (f1 (54 + 5 * k) (by omega) (by omega)) 4).trans (hX.1 k hk).1, fun i hi => by rw [f1 (55 + 5 * k) (by omega) (by omega), f1 (56 + 5 * k) (by omega) (by omega)]; exact (hX.1 k hk).2.2.1 i hi, hl.keep (fun a a1 a2 => f1 a (by omega) (by omega))⟩
    refine E_aload_n dX11_plan_88 rfl ?_
    refine E_getR dX11_plan_89 f_X11_54 rfl (Nat.lt_of_lt_of_le (by decide) hN) rfl (hR2 _ _ _ rfl) ?_
    refine E_aload_n dX11_plan_92 rfl ?_
    refine E_getR dX11_plan_93 f_X11_47 rfl (Nat.lt_of_lt_of_le (by decide) hN) rfl (hR2 _ _ _ rfl) ?_
    refine E_iload dX11_plan_96 rfl ?_
    refine E_callV (As := [_, _]) (ci := 5) (kc' := 1) (ks' := 49500) (kc := 0) (ks := 0) dX11_plan_98 ok_X6_seek w_X11_219 i_X6_seek s_X6_seek rfl (by decide) rfl (Nat.lt_of_lt_of_le (by decide) hN) rfl rfl rfl (Nat.le_of_ble_eq_true rfl) (Nat.le_of_ble_eq_true rfl) (Nat.le_refl _) (x_seekB (d := 892) (D := bgD (σ 3 k) 99) hR2 hk hq n4 hT hO h5 hB1 d1 ((congrFun (up2_o _ 22 2 _ 37 (by decide)) 1).trans ((congrFun (up2_o _ 22 1 _ 37 (by decide)) 1).trans hw)) (fun I2 f2 z3 v3 w3 => ?_) (fun I2 f2 z3 => ?_))
    · have fr : (∀ x, x < 152 → x ≠ 9 → x ≠ 10 → x ≠ 22 → x ≠ 23 → x ≠ 37 → x ≠ 38 → I2 x = I x) := fun x z a b c d e f => (f2 x z a b c d e f).trans (f1 x c d)
      have hN : 152 ≤ 153 := by decide
      refine E_zN_ne (a := 1) (tgt := 107) dX11_plan_101 (by decide) (by decide) (fun cw101 => ?_) (fun cw101 => absurd cw101 (by omega))
      refine E_iload_n dX11_plan_107 rfl ?_
      refine E_zN_ne (a := 1) (tgt := 121) dX11_plan_108 (by decide) (by decide) (fun cw108 => ?_) (fun cw108 => absurd cw108 (by omega))
      refine E_aload_n dX11_plan_121 rfl ?_
      refine E_getR dX11_plan_122 f_X11_54 rfl (Nat.lt_of_lt_of_le (by decide) hN) rfl (hR3 _ _ _ rfl) ?_
      refine E_getI dX11_plan_125 f_X11_226 rfl (Nat.lt_of_lt_of_le (by decide) hN) rfl ?_
      refine E.top (w3) ?_
      exact E_iret dX11_plan_128 rfl (by rw [show anP (skQ q σ k T) (nI 1) = nI ((skQ q σ k T - 1) % 8) from (if_neg z3).trans (if_neg (by decide))] at hQ; exact hQ I2 fr)
    · have fr : (∀ x, x < 152 → x ≠ 9 → x ≠ 10 → x ≠ 22 → x ≠ 23 → x ≠ 37 → x ≠ 38 → I2 x = I x) := fun x z a b c d e f => (f2 x z a b c d e f).trans (f1 x c d)
      refine E_zN_ne (a := 0) (tgt := 107) dX11_plan_101 (by decide) (by decide) (fun cw101 => absurd cw101 (by omega)) (fun cw101 => ?_)
      refine E_bp (-3) dX11_plan_104 (by decide) ?_
      exact E_iret dX11_plan_106 rfl (by rw [show anP (skQ q σ k T) (nI 1) = -3 from if_pos z3] at hQ; exact hQ I2 fr)
end PPlanZ
