/-! ===== plan: what it answers ===== -/
def gPl (σ : ST) (x y w : Int32) : Prop := tk σ x ∧ rg y 99 ∧ rg w 1
abbrev tgP (σ : ST) (k : Nat) (y : Int32) : Int32 := nxtS (σ 1 k) y (σ 0 k 0 - σ 3 k 3) (σ 3 k 3)
def skQ (q : LWD) (σ : ST) (k T : Nat) : Nat := (srP (nxP q k (σ 0 k 0) (σ 1 k) (σ 2 k)) (ouP q k (σ 0 k 0) (σ 1 k) (σ 2 k) T) (brP q k (σ 0 k 0) (σ 1 k) (σ 2 k)) (skB (bgD (σ 3 k) 99)) 49500).2
def noP (σ : ST) (k : Nat) (y : Int32) : Prop := tgP σ k y < 0 ∨ ¬ σ 3 k 5 = 0
def alP (σ : ST) (x y w : Int32) : Prop := gPl σ x y w ∧ ¬ noP σ x.toNatClampNeg y
def anP (r : Nat) (w : Int32) : Int32 := if r = 0 then -3 else if w = nI 0 then nI ((r - 1) / 8) else nI ((r - 1) % 8)
noncomputable def r_plan (x y w : Int32) (q : LWD) (σ : ST) : Value := .int (gd (gPl σ x y w) (gd (noP σ x.toNatClampNeg y) (-2) (anP (skQ q σ x.toNatClampNeg (tgP σ x.toNatClampNeg y).toNatClampNeg) w)) (-1))
theorem nxt_ex {f : Nat → Nat} {y : Int32} : ∀ m i, nxtS f y m i = -1 ∨ ∃ j, i ≤ j ∧ j < i + m ∧ nxtS f y m i = nI j
  | 0, _ => Or.inl rfl
  | m + 1, i => by
    by_cases c : nI (f i) = y
    · exact Or.inr ⟨i, Nat.le_refl _, by omega, if_pos c⟩
    · have e : nxtS f y (m + 1) i = nxtS f y m (i + 1) := if_neg c
      rcases nxt_ex m (i + 1) with z | ⟨j, j1, j2, j3⟩
      · exact Or.inl (e.trans z)
      · exact Or.inr ⟨j, by omega, by omega, e.trans j3⟩
theorem rg_in {m : Nat} {y : Int32} (hm : m + 1 < 2 ^ 31) (h0 : ¬ y < 0) (h1 : ¬ nI (m + 1) ≤ y) : rg y m := by
  obtain ⟨j, hj, rfl⟩ := nI_of h0
  exact ⟨j, Nat.le_of_lt_succ ((nI_ltI hj hm).mp (Int32.not_le.mp h1)), rfl⟩
section PPlanY
variable {g : GL} {n : Nat} {I : IM} {J : JM} {R : RM} {Q : PQ} {σ : ST} {q : LWD}
set_option maxRecDepth 100000 in
set_option maxHeartbeats 2000000 in
theorem x_planG {x y w : Int32} (hB : BND σ) (hX : XR σ n I R) (hg : ¬ gPl σ x y w) (hQ : Q (some (.int (-1))) n I J R) : E g mX11_plan 900 0 0 0 (ent 5 [.ref 0, .int x, .int y, .int w]) [] n I J R Q := by
  have hN := hX.2.2.2.1.n.1
  have hR := hX.2.2.2.1.1
  refine E_aload_n dX11_plan_0 rfl ?_
  refine E_iload_n dX11_plan_1 rfl ?_
  refine E_callV (As := [_]) (ci := 10) (kc' := 0) (ks' := 0) (kc := 0) (ks := 0) dX11_plan_2 ok_X11_isTold w_X11_138 i_X11_isTold s_X11_isTold rfl (by decide) rfl (Nat.lt_of_lt_of_le (by decide) hN) rfl rfl rfl (Nat.le_of_ble_eq_true rfl) (Nat.le_of_ble_eq_true rfl) (Nat.le_refl _) (X_isTold (d := 899) hB hX (fun k hk e h0 => ?_) (fun z => ?_))
  · subst e
    refine E_zN_eq (a := 1) (tgt := 27) dX11_plan_5 (by decide) (by decide) (fun cw5 => absurd cw5 (by omega)) (fun cw5 => ?_)
    refine E_iload_n dX11_plan_8 rfl ?_
    refine E_if_lt (tgt := 27) dX11_plan_9 (by decide) (fun cw9 => ?_) (fun cw9 => ?_)
    · refine E_ic (-1) dX11_plan_27 (by decide) ?_
      exact E_iret dX11_plan_28 rfl (hQ)
    · refine E_iload_n dX11_plan_12 rfl ?_
      refine E_bp (nI 100) dX11_plan_13 (by decide) ?_
      refine E_icmp_ge (tgt := 27) dX11_plan_15 (by decide) (fun cw15 => ?_) (fun cw15 => ?_)
      · refine E_ic (-1) dX11_plan_27 (by decide) ?_
        exact E_iret dX11_plan_28 rfl (hQ)
      · refine E_iload_n dX11_plan_18 rfl ?_
        refine E_if_lt (tgt := 27) dX11_plan_19 (by decide) (fun cw19 => ?_) (fun cw19 => ?_)
        · refine E_ic (-1) dX11_plan_27 (by decide) ?_
          exact E_iret dX11_plan_28 rfl (hQ)
        · refine E_iload_n dX11_plan_22 rfl ?_
          refine E_ic (nI 1) dX11_plan_23 (by decide) ?_
          refine E_icmp_le (tgt := 29) dX11_plan_24 (by decide) (fun cw24 => ?_) (fun cw24 => ?_)
          · exact absurd ⟨tk_of hk h0, rg_in (by decide) cw9 cw15, rg_in (by decide) cw19 (Int32.not_le.mpr (Int32.lt_of_le_of_lt cw24 (by decide)))⟩ hg
          · refine E_ic (-1) dX11_plan_27 (by decide) ?_
            exact E_iret dX11_plan_28 rfl (hQ)
  · skip
    refine E_zN_eq (a := 0) (tgt := 27) dX11_plan_5 (by decide) (by decide) (fun cw5 => ?_) (fun cw5 => absurd cw5 (by omega))
    refine E_ic (-1) dX11_plan_27 (by decide) ?_
    exact E_iret dX11_plan_28 rfl (hQ)
set_option maxRecDepth 100000 in
set_option maxHeartbeats 2000000 in
theorem x_planN (hB : BND σ) (hX : XR σ n I R) {k yy ww : Nat} (hk : k < 12) (h0 : 0 < σ 0 k 0) (hy : yy ≤ 99) (hww : ww ≤ 1) (hn : noP σ k (nI yy)) (hQ : Q (some (.int (-2))) n I J R) : E g mX11_plan 900 0 0 0 (ent 5 [.ref 0, .int (nI k), .int (nI yy), .int (nI ww)]) [] n I J R Q := by
  have hN := hX.2.2.2.1.n.1
  have hR := hX.2.2.2.1.1
  have s5 := (hB.1 k hk).2.2.1.2.2.2.2.2.1
  have s4 := (hB.1 k hk).2.2.1.2.2.2.2.1
  by_cases ht : tgP σ k (nI yy) < 0
  · skip
    refine E_aload_n dX11_plan_0 rfl ?_
    refine E_iload_n dX11_plan_1 rfl ?_
    refine E_callV (As := [_]) (ci := 10) (kc' := 0) (ks' := 0) (kc := 0) (ks := 0) dX11_plan_2 ok_X11_isTold w_X11_138 i_X11_isTold s_X11_isTold rfl (by decide) rfl (Nat.lt_of_lt_of_le (by decide) hN) rfl rfl rfl (Nat.le_of_ble_eq_true rfl) (Nat.le_of_ble_eq_true rfl) (Nat.le_refl _) (X_isTold (d := 899) hB hX (fun _ _ _ _ => ?_) (fun z => absurd (tk_of hk h0) z))
    refine E_zN_eq (a := 1) (tgt := 27) dX11_plan_5 (by decide) (by decide) (fun cw5 => absurd cw5 (by omega)) (fun cw5 => ?_)
    refine E_iload_n dX11_plan_8 rfl ?_
    refine E_zN_lt (a := yy) (tgt := 27) dX11_plan_9 (by omega) (by decide) (fun cw9 => cw9.elim) (fun cw9 => ?_)
    refine E_iload_n dX11_plan_12 rfl ?_
    refine E_bp (nI 100) dX11_plan_13 (by decide) ?_
    refine E_cN_ge (a := yy) (b := 100) (tgt := 27) dX11_plan_15 (by omega) (by decide) (by decide) (fun cw15 => absurd cw15 (by omega)) (fun cw15 => ?_)
    refine E_iload_n dX11_plan_18 rfl ?_
    refine E_zN_lt (a := ww) (tgt := 27) dX11_plan_19 (by omega) (by decide) (fun cw19 => cw19.elim) (fun cw19 => ?_)
    refine E_iload_n dX11_plan_22 rfl ?_
    refine E_ic (nI 1) dX11_plan_23 (by decide) ?_
    refine E_cN_le (a := ww) (b := 1) (tgt := 29) dX11_plan_24 (by omega) (by decide) (by decide) (fun cw24 => ?_) (fun cw24 => absurd cw24 (by omega))
    refine E_aload_n dX11_plan_29 rfl ?_
    refine E_getR dX11_plan_30 f_X11_11 rfl (Nat.lt_of_lt_of_le (by decide) hN) rfl (hR _ _ _ rfl) ?_
    refine E_iload_n dX11_plan_33 rfl ?_
    refine E_aaldN dX11_plan_34 rfl (Nat.lt_of_lt_of_le (by decide) hN) (by first | assumption | omega) (hR _ _ _ (RT1 k (by first | assumption | omega))) ?_
    refine E_iload_n dX11_plan_35 rfl ?_
    refine E_callV (As := [_]) (ci := 9) (kc' := 0) (ks' := 0) (kc := 0) (ks := 0) dX11_plan_36 ok_X10_nextOf w_X11_211 i_X10_nextOf s_X10_nextOf rfl (by decide) (LYw k (by first | assumption | omega)).1 (by first | assumption | omega) rfl rfl rfl (Nat.le_of_ble_eq_true rfl) (Nat.le_of_ble_eq_true rfl) (Nat.le_refl _) (x_nextOf (d := 899) hB hX hk ?_)
    refine E_istore dX11_plan_39 (Nat.le_of_ble_eq_true rfl) ?_
    refine E_iload dX11_plan_41 rfl ?_
    refine E_if_lt (tgt := 61) dX11_plan_43 (by decide) (fun cw43 => ?_) (fun cw43 => by first | exact absurd cw43 (ht) | exact absurd (ht) cw43)
    refine E_bp (-2) dX11_plan_61 (by decide) ?_
    exact E_iret dX11_plan_63 rfl (hQ)
  · have h5 : ¬ σ 3 k 5 = 0 := by rcases hn with z | z; exact absurd z ht; exact z
    refine E_aload_n dX11_plan_0 rfl ?_
    refine E_iload_n dX11_plan_1 rfl ?_
    refine E_callV (As := [_]) (ci := 10) (kc' := 0) (ks' := 0) (kc := 0) (ks := 0) dX11_plan_2 ok_X11_isTold w_X11_138 i_X11_isTold s_X11_isTold rfl (by decide) rfl (Nat.lt_of_lt_of_le (by decide) hN) rfl rfl rfl (Nat.le_of_ble_eq_true rfl) (Nat.le_of_ble_eq_true rfl) (Nat.le_refl _) (X_isTold (d := 899) hB hX (fun _ _ _ _ => ?_) (fun z => absurd (tk_of hk h0) z))
    refine E_zN_eq (a := 1) (tgt := 27) dX11_plan_5 (by decide) (by decide) (fun cw5 => absurd cw5 (by omega)) (fun cw5 => ?_)
    refine E_iload_n dX11_plan_8 rfl ?_
    refine E_zN_lt (a := yy) (tgt := 27) dX11_plan_9 (by omega) (by decide) (fun cw9 => cw9.elim) (fun cw9 => ?_)
    refine E_iload_n dX11_plan_12 rfl ?_
    refine E_bp (nI 100) dX11_plan_13 (by decide) ?_
    refine E_cN_ge (a := yy) (b := 100) (tgt := 27) dX11_plan_15 (by omega) (by decide) (by decide) (fun cw15 => absurd cw15 (by omega)) (fun cw15 => ?_)
    refine E_iload_n dX11_plan_18 rfl ?_
    refine E_zN_lt (a := ww) (tgt := 27) dX11_plan_19 (by omega) (by decide) (fun cw19 => cw19.elim) (fun cw19 => ?_)
    refine E_iload_n dX11_plan_22 rfl ?_
    refine E_ic (nI 1) dX11_plan_23 (by decide) ?_
    refine E_cN_le (a := ww) (b := 1) (tgt := 29) dX11_plan_24 (by omega) (by decide) (by decide) (fun cw24 => ?_) (fun cw24 => absurd cw24 (by omega))
    refine E_aload_n dX11_plan_29 rfl ?_
    refine E_getR dX11_plan_30 f_X11_11 rfl (Nat.lt_of_lt_of_le (by decide) hN) rfl (hR _ _ _ rfl) ?_
    refine E_iload_n dX11_plan_33 rfl ?_
    refine E_aaldN dX11_plan_34 rfl (Nat.lt_of_lt_of_le (by decide) hN) (by first | assumption | omega) (hR _ _ _ (RT1 k (by first | assumption | omega))) ?_
    refine E_iload_n dX11_plan_35 rfl ?_
    refine E_callV (As := [_]) (ci := 9) (kc' := 0) (ks' := 0) (kc := 0) (ks := 0) dX11_plan_36 ok_X10_nextOf w_X11_211 i_X10_nextOf s_X10_nextOf rfl (by decide) (LYw k (by first | assumption | omega)).1 (by first | assumption | omega) rfl rfl rfl (Nat.le_of_ble_eq_true rfl) (Nat.le_of_ble_eq_true rfl) (Nat.le_refl _) (x_nextOf (d := 899) hB hX hk ?_)
    refine E_istore dX11_plan_39 (Nat.le_of_ble_eq_true rfl) ?_
    refine E_iload dX11_plan_41 rfl ?_
    refine E_if_lt (tgt := 61) dX11_plan_43 (by decide) (fun cw43 => by first | exact absurd cw43 (ht) | exact absurd (ht) cw43) (fun cw43 => ?_)
    refine E_aload_n dX11_plan_46 rfl ?_
    refine E_getR dX11_plan_47 f_X11_11 rfl (Nat.lt_of_lt_of_le (by decide) hN) rfl (hR _ _ _ rfl) ?_
    refine E_iload_n dX11_plan_50 rfl ?_
    refine E_aaldN dX11_plan_51 rfl (Nat.lt_of_lt_of_le (by decide) hN) (by first | assumption | omega) (hR _ _ _ (RT1 k (by first | assumption | omega))) ?_
    refine E_getR dX11_plan_52 f_X11_146 (LYw k (by first | assumption | omega)).1 (by first | assumption | omega) rfl (hR _ _ _ (RTw k (by first | assumption | omega)).2.2.1) ?_
    refine E_getI dX11_plan_55 f_X11_193 (LYw k (by first | assumption | omega)).2.2.2.1 (by first | assumption | omega) rfl ?_
    refine E.top ((hX.1 k (by first | assumption | omega)).2.2.2.1 5 (by decide)) ?_
    refine E_zN_eq (a := σ 3 k 5) (tgt := 64) dX11_plan_58 (by omega) (by decide) (fun cw58 => absurd cw58 (by omega)) (fun cw58 => ?_)
    refine E_bp (-2) dX11_plan_61 (by decide) ?_
    exact E_iret dX11_plan_63 rfl (hQ)
end PPlanY
