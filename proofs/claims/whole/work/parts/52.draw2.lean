/-! ===== draw, tried: the calls ===== -/
def gDr (σ : ST) (x w : Int32) : Prop := tk σ x ∧ tp σ w 1 60
noncomputable def r_draw (x w : Int32) (q : LWD) (σ : ST) : Value := .int (gd (gDr σ x w) (match rdS 0 96 w.toNatClampNeg (ccS (tpS σ) w.toNatClampNeg) with | .inl z => z | .inr r => nI ((rnQ q σ x.toNatClampNeg r).1 7)) (-1))
noncomputable def u_draw (x w : Int32) (q : LWD) (σ : ST) : ST := gd (gDr σ x w) (match rdS 0 96 w.toNatClampNeg (ccS (tpS σ) w.toNatClampNeg) with | .inl _ => u0 σ | .inr r => uD x.toNatClampNeg (rnQ q σ x.toNatClampNeg r).1 (rnQ q σ x.toNatClampNeg r).2.1 σ) σ
theorem rnQ_ok {q : LWD} {σ : ST} (hB : BND σ) {k : Nat} (hk : k < 12) (r : Nat × Nat × FN) : okD (σ 0 k 0) (rnQ q σ k r).1 ∧ (rnQ q σ k r).2.1 ≤ 65535 := rnS_ok _ _ _ _ _ (bgD_ok hB hk) hB.2.1.2.2
theorem rnQ_c {q : LWD} {σ : ST} {k : Nat} (r : Nat × Nat × FN) : (rnQ q σ k r).1 7 ≤ (rnQ q σ k r).1 3 := rnS_c _ _ _ _ _ (Nat.zero_le _)
theorem b_draw (x w : Int32) : ∀ q σ, BND σ → BND (u_draw x w q σ) := by
  intro q σ h
  unfold u_draw
  by_cases c : gDr σ x w
  · rw [gd_t c]
    obtain ⟨c1, m, m1, m2, m3, rfl⟩ := c
    obtain ⟨k, hk, rfl, h0⟩ := tk_ex c1
    rw [nI_clamp (n := m) (by omega), nI_clamp (n := k) (by omega)]
    cases hr : rdS 0 96 m (ccS (tpS σ) m) with
    | inl z => exact u0_B h
    | inr r => exact uD_B h hk h0 (rnQ_ok h hk r).1 (rnQ_ok h hk r).2
  · rw [gd_f c]
    exact h
def gTr (σ : ST) (x w v : Int32) : Prop := gDr σ x w ∧ rg v 7
/-- what is asked of a run -/
def askR (σ : ST) (k v : Nat) (o : FN × Nat × Int32) : Int32 := match v with
  | 0 => nI (o.1 7)
  | 1 => o.2.2
  | 2 => nI (o.1 0)
  | 3 => nI (o.1 1)
  | 4 => nI (o.1 2)
  | 5 => nI (o.1 4)
  | 6 => if o.1 7 = 0 then -2 else nI (σ 1 k (o.1 3 - 1))
  | _ => nI (o.1 6)
noncomputable def r_tried (x w v : Int32) (q : LWD) (σ : ST) : Value := .int (gd (gTr σ x w v) (match rdS 0 96 w.toNatClampNeg (ccS (tpS σ) w.toNatClampNeg) with | .inl z => z | .inr r => askR σ x.toNatClampNeg v.toNatClampNeg (rnQ q σ x.toNatClampNeg r)) (-1))
noncomputable def u_tried (x w v : Int32) (_ : LWD) (σ : ST) : ST := gd (gTr σ x w v) (u0 σ) σ
theorem b_tried (x w v : Int32) : ∀ q σ, BND σ → BND (u_tried x w v q σ) := by
  intro q σ h
  unfold u_tried
  by_cases c : gTr σ x w v
  · rw [gd_t c]
    exact u0_B h
  · rw [gd_f c]
    exact h
section PDraw2
variable {g : GL} {d n : Nat} {I : IM} {J : JM} {R : RM} {Q : PQ} {k : Nat} {q : LWD} {σ : ST}
set_option maxRecDepth 100000 in
set_option maxHeartbeats 2000000 in
theorem sx_draw (x w : Int32) : SXQ mX11_draw [.int x, .int w] (r_draw x w) (u_draw x w) := by
  intro g n I J R σ q Q hB hX hq hl hQ
  have hN := hX.2.2.2.1.n.1
  have hR := hX.2.2.2.1.1
  have b9 : σ 9 0 0 ≤ 260 := hB.2.2.2.2.2.1
  unfold r_draw u_draw at hQ
  refine E_aload_n dX11_draw_0 rfl ?_
  refine E_iload_n dX11_draw_1 rfl ?_
  refine E_callV (As := [_]) (ci := 10) (kc' := 0) (ks' := 0) (kc := 0) (ks := 0) dX11_draw_2 ok_X11_isTold w_X11_138 i_X11_isTold s_X11_isTold rfl (by decide) rfl (Nat.lt_of_lt_of_le (by decide) hN) rfl rfl rfl (Nat.le_of_ble_eq_true rfl) (Nat.le_of_ble_eq_true rfl) (Nat.le_refl _) (X_isTold (d := 899) hB hX (fun k hk e h0 => ?_) (fun z => ?_))
  · subst e
    refine E_zN_eq (a := 1) (tgt := 19) dX11_draw_5 (by decide) (by decide) (fun cw5 => absurd cw5 (by omega)) (fun cw5 => ?_)
    refine E_aload_n dX11_draw_8 rfl ?_
    refine E_iload_n dX11_draw_9 rfl ?_
    refine E_ic (nI 1) dX11_draw_10 (by decide) ?_
    refine E_bp (nI 60) dX11_draw_11 (by decide) ?_
    refine E_callV (As := [_, _, _]) (ci := 10) (kc' := 0) (ks' := 0) (kc := 0) (ks := 0) dX11_draw_13 ok_X11_tapeHas w_X11_113 i_X11_tapeHas s_X11_tapeHas rfl (by decide) rfl (Nat.lt_of_lt_of_le (by decide) hN) rfl rfl rfl (Nat.le_of_ble_eq_true rfl) (Nat.le_of_ble_eq_true rfl) (Nat.le_refl _) (X_tapeHas (d := 899) (by decide) (by decide) hB hX (fun m h1 h2 h3 e => ?_) (fun z => ?_))
    · subst e
      have hg : gDr σ (nI k) (nI m) := ⟨tk_of hk h0, tp_of h1 h2 h3⟩
      rw [gd_t hg, gd_t hg, nI_clamp (n := m) (by omega), nI_clamp (n := k) (by omega)] at hQ
      have hc := tp_okc hB h3
      refine E_zN_ne (a := 1) (tgt := 21) dX11_draw_16 (by decide) (by decide) (fun cw16 => ?_) (fun cw16 => absurd cw16 (by omega))
      refine E_aload_n dX11_draw_21 rfl ?_
      refine E_iload_n dX11_draw_22 rfl ?_
      refine E_iload_n dX11_draw_23 rfl ?_
      refine E_callV (As := [_, _]) (ci := 10) (kc' := 0) (ks' := 0) (kc := 0) (ks := 0) dX11_draw_24 ok_X11_rehearse w_X11_142 i_X11_rehearse s_X11_rehearse rfl (by decide) rfl (Nat.lt_of_lt_of_le (by decide) hN) rfl rfl rfl (Nat.le_of_ble_eq_true rfl) (Nat.le_of_ble_eq_true rfl) (Nat.le_refl _) (x_rehearse (d := 886) hN hB hX hq hl hk h3 ?_)
      cases hr : rdS 0 96 m (ccS (tpS σ) m) with
      | inl z =>
        have hQ : ∀ (I' : IM) (J' : JM) (R' : RM), XR (u0 σ) n I' R' → (∀ a, 3 ≤ a → a ≤ 8 → I' a = I a) → (∀ a, 114 ≤ a → a < 152 → I' a = I a) → Q (some (.int (z))) n I' J' R' := by rw [hr] at hQ; exact hQ
        intro I4 R4 hn2 f4
        refine E_istore_n dX11_draw_27 (Nat.le_of_ble_eq_true rfl) ?_
        refine E_iload_n dX11_draw_28 rfl ?_
        refine E_if_ge (tgt := 34) dX11_draw_29 (by decide) (fun cw29 => by first | exact absurd cw29 (fun y => absurd (rd_neg hc (by omega) hr) (Int32.not_lt.mpr y)) | exact absurd (fun y => absurd (rd_neg hc (by omega) hr) (Int32.not_lt.mpr y)) cw29) (fun cw29 => ?_)
        refine E_iload_n dX11_draw_32 rfl ?_
        exact E_iret dX11_draw_33 rfl (hQ I4 J R4 (XRn (u0_X hX) hn2 (fun a h1 h2 => f4 a (by omega) (by omega) (by omega) (by omega) (by omega) (by omega)) (f4 0 (by decide) (by decide) (by decide) (by decide) (by decide) (by decide)) (f4 2 (by decide) (by decide) (by decide) (by decide) (by decide) (by decide))) (fun a a1 a2 => (f4 a (by omega) (by omega) (by omega) (by omega) (by omega) (by omega)).trans (up2_o I 0 2 _ a (by omega))) (fun a a1 a2 => (f4 a (by omega) (by omega) (by omega) (by omega) (by omega) (by omega)).trans (up2_o I 0 2 _ a (by omega))))
      | inr r =>
        have hQ : ∀ (I' : IM) (J' : JM) (R' : RM), XR (uD k (rnQ q σ k r).1 (rnQ q σ k r).2.1 σ) n I' R' → (∀ a, 3 ≤ a → a ≤ 8 → I' a = I a) → (∀ a, 114 ≤ a → a < 152 → I' a = I a) → Q (some (.int (nI ((rnQ q σ k r).1 7)))) n I' J' R' := by rw [hr] at hQ; exact hQ
        have ho := rnQ_ok (q := q) hB hk r
        have hcm := rnQ_c (q := q) (σ := σ) (k := k) r
        intro I4 R4 hn2 f4 k4 d4 l4 b4
        revert hQ ho hcm d4 l4 b4
        generalize rnQ q σ k r = o
        intro hQ ho hcm d4 l4 b4
        obtain ⟨⟨o0, o1, o2, o3, o4, o5, o6, o7, o8, o9⟩, o10⟩ := ho
        have c4 : σ 4 1 0 ≤ 9999 := hB.2.1.2.1
        have n4 := (hB.1 k hk).1
        refine E_istore_n dX11_draw_27 (Nat.le_of_ble_eq_true rfl) ?_
        refine E_iload_n dX11_draw_28 rfl ?_
        refine E_zN_ge (a := 0) (tgt := 34) dX11_draw_29 (by decide) (by decide) (fun cw29 => ?_) (fun cw29 => cw29.elim)
        refine E_aload_n dX11_draw_34 rfl ?_
        refine E_getR dX11_draw_35 f_X11_11 rfl (Nat.lt_of_lt_of_le (by decide) hN) rfl (hn2.1 _ _ _ rfl) ?_
        refine E_iload_n dX11_draw_38 rfl ?_
        refine E_aaldN dX11_draw_39 rfl (Nat.lt_of_lt_of_le (by decide) hN) (by first | assumption | omega) (hn2.1 _ _ _ (RT1 k (by first | assumption | omega))) ?_
        refine E_getR dX11_draw_40 f_X11_146 (LYw k (by first | assumption | omega)).1 (by first | assumption | omega) rfl (hn2.1 _ _ _ (RTw k hk).2.2.1) ?_
        refine E_aload_n dX11_draw_43 rfl ?_
        refine E_getR dX11_draw_44 f_X11_47 rfl (Nat.lt_of_lt_of_le (by decide) hN) rfl (hn2.1 _ _ _ rfl) ?_
        refine E_getR dX11_draw_47 f_X11_150 rfl (Nat.lt_of_lt_of_le (by decide) hN) rfl (hn2.1 _ _ _ rfl) ?_
        refine E_callV (As := [_]) (ci := 7) (kc' := 0) (ks' := 0) (kc := 0) (ks := 0) dX11_draw_50 ok_X8_take w_X11_153 i_X8_take s_X8_take rfl (by decide) (LYw k (by first | assumption | omega)).2.2.2.1 (by first | assumption | omega) rfl rfl rfl (Nat.le_of_ble_eq_true rfl) (Nat.le_of_ble_eq_true rfl) (Nat.le_refl _) (c_State_take (LYw k hk).2.2.2.1 rfl (by omega) (Nat.lt_of_lt_of_le (by decide) hN) (by rw [d4.2.2 4 (by decide)]; rcases Nat.le_one_iff_eq_zero_or_eq_one.mp o4 with z | z <;> rw [z]; exact Or.inl rfl; exact Or.inr rfl) (by rw [d4.2.2 5 (by decide)]; rcases Nat.le_one_iff_eq_zero_or_eq_one.mp o5 with z | z <;> rw [z]; exact Or.inl rfl; exact Or.inr rfl) ?_)
        refine E_aload_n dX11_draw_53 rfl ?_
        refine E_aload_n dX11_draw_54 rfl ?_
        refine E_getR dX11_draw_55 f_X11_47 rfl (Nat.lt_of_lt_of_le (by decide) hN) rfl (hn2.1 _ _ _ rfl) ?_
        refine E_getI dX11_draw_58 f_X11_158 rfl (Nat.lt_of_lt_of_le (by decide) hN) rfl ?_
        refine E.top ((show (blk I4 (57 + 5 * k) 23 6) 22 4 = I4 22 4 from if_neg (fun z => absurd z.1 (by omega))).trans d4.1) ?_
        refine E_putI dX11_draw_61 f_X11_86 rfl (Nat.lt_of_lt_of_le (by decide) hN) rfl ?_
        refine E_aload_n dX11_draw_64 rfl ?_
        refine E_aload_n dX11_draw_65 rfl ?_
        refine E_getR dX11_draw_66 f_X11_47 rfl (Nat.lt_of_lt_of_le (by decide) hN) rfl (hn2.1 _ _ _ rfl) ?_
        refine E_getI dX11_draw_69 f_X11_159 rfl (Nat.lt_of_lt_of_le (by decide) hN) rfl ?_
        refine E.top ((congrFun (up2_o _ 0 _ _ 22 (by decide)) 5).trans ((show (blk I4 (57 + 5 * k) 23 6) 22 5 = I4 22 5 from if_neg (fun z => absurd z.1 (by omega))).trans l4)) ?_
        refine E_putI dX11_draw_72 f_X11_92 rfl (Nat.lt_of_lt_of_le (by decide) hN) rfl ?_
        refine E_aload_n dX11_draw_75 rfl ?_
        refine E_sp (nI 9999) dX11_draw_76 (by decide) ?_
        refine E_aload_n dX11_draw_79 rfl ?_
        refine E_getI dX11_draw_80 f_X11_89 rfl (Nat.lt_of_lt_of_le (by decide) hN) rfl ?_
        refine E.top ((up2_k _ _ (by decide)).trans ((up2_k _ _ (by decide)).trans ((show (blk I4 (57 + 5 * k) 23 6) 0 14 = I4 0 14 from if_neg (fun z => absurd z.1 (by omega))).trans ((congrFun (f4 0 (by decide) (by decide) (by decide) (by decide) (by decide) (by decide)) 14).trans hX.2.1.2.2.1)))) ?_
        refine E_aload_n dX11_draw_83 rfl ?_
        refine E_getR dX11_draw_84 f_X11_47 rfl (Nat.lt_of_lt_of_le (by decide) hN) rfl (hn2.1 _ _ _ rfl) ?_
        refine E_getI dX11_draw_87 f_X11_160 rfl (Nat.lt_of_lt_of_le (by decide) hN) rfl ?_
        refine E.top ((congrFun ((up2_o _ 0 _ _ 22 (by decide)).trans (up2_o _ 0 _ _ 22 (by decide))) 6).trans ((show (blk I4 (57 + 5 * k) 23 6) 22 6 = I4 22 6 from if_neg (fun z => absurd z.1 (by omega))).trans d4.2.1)) ?_
        refine E_iadd dX11_draw_90 ?_
        refine E.top (nI_add (σ 4 1 0) (o.1 7)) ?_
        refine E_mmin dX11_draw_91 w_X11_163 (Nat.le_of_ble_eq_true rfl) (by omega) ?_
        refine E.top (nI_min 9999 ((σ 4 1 0) + (o.1 7)) (by omega) (by omega)) ?_
        refine E_putI dX11_draw_94 f_X11_89 rfl (Nat.lt_of_lt_of_le (by decide) hN) rfl ?_
        refine E_aload_n dX11_draw_97 rfl ?_
        refine E_getR dX11_draw_98 f_X11_47 rfl (Nat.lt_of_lt_of_le (by decide) hN) rfl (hn2.1 _ _ _ rfl) ?_
        refine E_getI dX11_draw_101 f_X11_160 rfl (Nat.lt_of_lt_of_le (by decide) hN) rfl ?_
        refine E.top ((congrFun ((up2_o _ 0 _ _ 22 (by decide)).trans ((up2_o _ 0 _ _ 22 (by decide)).trans (up2_o _ 0 _ _ 22 (by decide)))) 6).trans ((show (blk I4 (57 + 5 * k) 23 6) 22 6 = I4 22 6 from if_neg (fun z => absurd z.1 (by omega))).trans d4.2.1)) ?_
        refine E_iret dX11_draw_104 rfl ?_
        refine hQ _ J R4 ⟨fun i hi => ?_, ?_, fun j hj => absurd hj (Nat.not_lt_zero j), hn2, fun i hi => ?_⟩ (fun a a1 a2 => ?_) (fun a a1 a2 => ?_)
        · have ea : ∀ j, (j = 54 ∨ j = 55 ∨ j = 56 ∨ j = 58 ∨ (j = 57 ∧ i ≠ k)) → (up2 (up2 (up2 (blk I4 (57 + 5 * k) 23 6) 0 13 (nI (o.1 6))) 0 15 (nI o.2.1)) 0 14 (nI (min 9999 (σ 4 1 0 + o.1 7)))) (j + 5 * i) = I (j + 5 * i) := fun j hj => by rw [up2_o _ 0 _ _ (j + 5 * i) (by omega), up2_o _ 0 _ _ (j + 5 * i) (by omega), up2_o _ 0 _ _ (j + 5 * i) (by omega), show (blk I4 (57 + 5 * k) 23 6) (j + 5 * i) = I4 (j + 5 * i) from funext fun y => if_neg (fun z => by have := z.1; omega), f4 (j + 5 * i) (by omega) (by omega) (by omega) (by omega) (by omega) (by omega), up2_o I 0 2 _ (j + 5 * i) (by omega)]
          obtain ⟨w1, w2, w3, w4, w5⟩ := hX.1 i hi
          refine ⟨(congrFun (ea 54 (by omega)) 4).trans w1, (congrFun (ea 54 (by omega)) 5).trans w2, fun y hy => ⟨(congrFun (ea 55 (by omega)) y).trans (w3 y hy).1, (congrFun (ea 56 (by omega)) y).trans (w3 y hy).2⟩, fun y hy => ?_, fun z y hy => (congrFun (ea 58 (by omega)) y).trans (w5 z y hy)⟩
          by_cases e : i = k
          · subst e
            rw [show uD i o.1 o.2.1 σ 3 i y = o.1 y from if_pos rfl, up2_o _ 0 _ _ (57 + 5 * i) (by omega), up2_o _ 0 _ _ (57 + 5 * i) (by omega), up2_o _ 0 _ _ (57 + 5 * i) (by omega), show blk I4 (57 + 5 * i) 23 6 (57 + 5 * i) y = I4 23 y from if_pos ⟨rfl, hy⟩]
            exact d4.2.2 y hy
          · rw [show uD k o.1 o.2.1 σ 3 i y = σ 3 i y from if_neg e]
            exact (congrFun (ea 57 (by omega)) y).trans (w4 y hy)
        · have e0 : ∀ j, j ≠ 13 → j ≠ 14 → j ≠ 15 → (up2 (up2 (up2 (blk I4 (57 + 5 * k) 23 6) 0 13 (nI (o.1 6))) 0 15 (nI o.2.1)) 0 14 (nI (min 9999 (σ 4 1 0 + o.1 7)))) 0 j = up2 I 0 2 (nI 0) 0 j := fun j h1 h2 h3 => by rw [up2_k _ _ h2, up2_k _ _ h3, up2_k _ _ h1, show (blk I4 (57 + 5 * k) 23 6) 0 j = I4 0 j from if_neg (fun z => absurd z.1 (by omega)), f4 0 (by decide) (by decide) (by decide) (by decide) (by decide) (by decide)]
          obtain ⟨x1, x2, x3, x4, x5, x6⟩ := hX.2.1
          exact ⟨(e0 2 (by decide) (by decide) (by decide)).trans rfl, rfl, rfl, rfl, (e0 16 (by decide) (by decide) (by decide)).trans x5, fun z => ⟨(e0 17 (by decide) (by decide) (by decide)).trans (x6 z).1, (e0 18 (by decide) (by decide) (by decide)).trans (x6 z).2.1, (e0 19 (by decide) (by decide) (by decide)).trans (x6 z).2.2⟩⟩
        · rw [up2_o _ 0 _ _ (58 + 5 * i) (by omega), up2_o _ 0 _ _ (58 + 5 * i) (by omega), up2_o _ 0 _ _ (58 + 5 * i) (by omega), show (blk I4 (57 + 5 * k) 23 6) (58 + 5 * i) = I4 (58 + 5 * i) from funext fun y => if_neg (fun z => by have := z.1; omega), f4 (58 + 5 * i) (by omega) (by omega) (by omega) (by omega) (by omega) (by omega), up2_o I 0 2 _ (58 + 5 * i) (by omega)]
          exact hX.2.2.2.2 i hi
        · rw [up2_o _ 0 _ _ a (by omega), up2_o _ 0 _ _ a (by omega), up2_o _ 0 _ _ a (by omega), show (blk I4 (57 + 5 * k) 23 6) a = I4 a from funext fun y => if_neg (fun z => by have := z.1; omega), f4 a (by omega) (by omega) (by omega) (by omega) (by omega) (by omega), up2_o I 0 2 _ a (by omega)]
        · rw [up2_o _ 0 _ _ a (by omega), up2_o _ 0 _ _ a (by omega), up2_o _ 0 _ _ a (by omega), show (blk I4 (57 + 5 * k) 23 6) a = I4 a from funext fun y => if_neg (fun z => by have := z.1; omega), f4 a (by omega) (by omega) (by omega) (by omega) (by omega) (by omega), up2_o I 0 2 _ a (by omega)]
    · have hno : ¬ gDr σ (nI k) w := fun y => z y.2
      rw [gd_f hno] at hQ
      rw [gd_f hno] at hQ
      have hq2 := hQ I J R hX (fun _ _ _ => rfl) (fun _ _ _ => rfl)
      refine E_zN_ne (a := 0) (tgt := 21) dX11_draw_16 (by decide) (by decide) (fun cw16 => absurd cw16 (by omega)) (fun cw16 => ?_)
      refine E_ic (-1) dX11_draw_19 (by decide) ?_
      exact E_iret dX11_draw_20 rfl (hq2)
  · have hno : ¬ gDr σ x w := fun y => z y.1
    rw [gd_f hno] at hQ
    rw [gd_f hno] at hQ
    have hq2 := hQ I J R hX (fun _ _ _ => rfl) (fun _ _ _ => rfl)
    refine E_zN_eq (a := 0) (tgt := 19) dX11_draw_5 (by decide) (by decide) (fun cw5 => ?_) (fun cw5 => absurd cw5 (by omega))
    refine E_ic (-1) dX11_draw_19 (by decide) ?_
    exact E_iret dX11_draw_20 rfl (hq2)
set_option maxRecDepth 100000 in
set_option maxHeartbeats 2000000 in
theorem x_lastYear {LN : Nat} {Y D : FN} (hN : 152 ≤ n) (hR : RS R) (hk : k < 12) (hLN : LN ≤ 24) (hof : R 22 1 = some (54 + 5 * k)) (hY : ∀ i, i < LN → I (55 + 5 * k) i = nI (Y i)) (hO : okD LN D) (hcm : D 7 ≤ D 3) (hD : BDc D I) (hQ : Q (some (.int (if D 7 = 0 then -2 else nI (Y (D 3 - 1))))) n I J R) : E g mX0_lastYear d 0 0 0 (ent 2 [.ref 22]) [] n I J R Q := by
  obtain ⟨o0, o1, o2, o3, o4, o5, o6, o7, o8, o9⟩ := hO
  by_cases h7 : D 7 = 0
  · rw [if_pos h7] at hQ
    refine E_aload_n dX0_lastYear_0 rfl ?_
    refine E_getR dX0_lastYear_1 f_X0_12 rfl (Nat.lt_of_lt_of_le (by decide) hN) rfl (hR _ _ _ rfl) ?_
    refine E_getI dX0_lastYear_4 f_X0_64 rfl (Nat.lt_of_lt_of_le (by decide) hN) rfl ?_
    refine E.top (hD.2.2 3 (by decide)) ?_
    refine E_ic (nI 1) dX0_lastYear_7 (by decide) ?_
    refine E_isub dX0_lastYear_8 ?_
    refine E_istore_n dX0_lastYear_9 (Nat.le_of_ble_eq_true rfl) ?_
    refine E_aload_n dX0_lastYear_10 rfl ?_
    refine E_getI dX0_lastYear_11 f_X0_42 rfl (Nat.lt_of_lt_of_le (by decide) hN) rfl ?_
    refine E.top (hD.2.1) ?_
    refine E_zN_le (a := D 7) (tgt := 39) dX0_lastYear_14 (by omega) (by decide) (fun cw14 => ?_) (fun cw14 => absurd cw14 (by omega))
    refine E_bp (-2) dX0_lastYear_39 (by decide) ?_
    exact E_iret dX0_lastYear_41 rfl (hQ)
  · rw [if_neg h7] at hQ
    refine E_aload_n dX0_lastYear_0 rfl ?_
    refine E_getR dX0_lastYear_1 f_X0_12 rfl (Nat.lt_of_lt_of_le (by decide) hN) rfl (hR _ _ _ rfl) ?_
    refine E_getI dX0_lastYear_4 f_X0_64 rfl (Nat.lt_of_lt_of_le (by decide) hN) rfl ?_
    refine E.top (hD.2.2 3 (by decide)) ?_
    refine E_ic (nI 1) dX0_lastYear_7 (by decide) ?_
    refine E_isub dX0_lastYear_8 ?_
    refine E.top (pk_sub (a := D 3) (b := 1) (by omega)) ?_
    refine E_istore_n dX0_lastYear_9 (Nat.le_of_ble_eq_true rfl) ?_
    refine E_aload_n dX0_lastYear_10 rfl ?_
    refine E_getI dX0_lastYear_11 f_X0_42 rfl (Nat.lt_of_lt_of_le (by decide) hN) rfl ?_
    refine E.top (hD.2.1) ?_
    refine E_zN_le (a := D 7) (tgt := 39) dX0_lastYear_14 (by omega) (by decide) (fun cw14 => absurd cw14 (by omega)) (fun cw14 => ?_)
    refine E_iload_n dX0_lastYear_17 rfl ?_
    refine E_zN_lt (a := (D 3) - 1) (tgt := 39) dX0_lastYear_18 (by omega) (by decide) (fun cw18 => cw18.elim) (fun cw18 => ?_)
    refine E_iload_n dX0_lastYear_21 rfl ?_
    refine E_bp (nI 24) dX0_lastYear_22 (by decide) ?_
    refine E_cN_ge (a := (D 3) - 1) (b := 24) (tgt := 39) dX0_lastYear_24 (by omega) (by decide) (by decide) (fun cw24 => absurd cw24 (by omega)) (fun cw24 => ?_)
    refine E_aload_n dX0_lastYear_27 rfl ?_
    refine E_getR dX0_lastYear_28 f_X0_21 rfl (Nat.lt_of_lt_of_le (by decide) hN) rfl hof ?_
    refine E_getR dX0_lastYear_31 f_X0_67 (LYw k (by first | assumption | omega)).1 (by first | assumption | omega) rfl (hR _ _ _ (RTw k (by first | assumption | omega)).1) ?_
    refine E_iload_n dX0_lastYear_34 rfl ?_
    refine E_ialdN dX0_lastYear_35 (LYw k (by first | assumption | omega)).2.1 (by first | assumption | omega) (by omega) ?_
    refine E.top (hY _ (by omega)) ?_
    refine E_goto (tgt := 41) dX0_lastYear_36 (by decide) ?_
    exact E_iret dX0_lastYear_41 rfl (hQ)
set_option maxRecDepth 100000 in
set_option maxHeartbeats 2000000 in
theorem sx_tried (x w v : Int32) : SXQ mX11_tried [.int x, .int w, .int v] (r_tried x w v) (u_tried x w v) := by
  intro g n I J R σ q Q hB hX hq hl hQ
  have hN := hX.2.2.2.1.n.1
  have hR := hX.2.2.2.1.1
  have b9 : σ 9 0 0 ≤ 260 := hB.2.2.2.2.2.1
  unfold r_tried u_tried at hQ
  rcases i32_ix v 8 (by decide) with hx | ⟨v, hv, rfl⟩
  · have hno : ¬ gTr σ x w v := fun z => rg_no hx (by decide) z.2
    rw [gd_f hno] at hQ
    rw [gd_f hno] at hQ
    have hq2 := hQ I J R hX (fun _ _ _ => rfl) (fun _ _ _ => rfl)
    refine E_iload_n dX11_tried_0 rfl ?_
    refine E_if_lt (tgt := 29) dX11_tried_1 (by decide) (fun cw1 => ?_) (fun cw1 => ?_)
    · refine E_ic (-1) dX11_tried_29 (by decide) ?_
      exact E_iret dX11_tried_30 rfl (hq2)
    · refine E_iload_n dX11_tried_4 rfl ?_
      refine E_bp (nI 7) dX11_tried_5 (by decide) ?_
      refine E_icmp_gt (tgt := 29) dX11_tried_7 (by decide) (fun cw7 => ?_) (fun cw7 => by first | exact absurd cw7 (hx.elim (fun y => absurd y (Int32.not_lt.mpr (Int32.not_lt.mp cw1))) (fun y => Int32.lt_of_lt_of_le (by decide) y)) | exact absurd (hx.elim (fun y => absurd y (Int32.not_lt.mpr (Int32.not_lt.mp cw1))) (fun y => Int32.lt_of_lt_of_le (by decide) y)) cw7)
      refine E_ic (-1) dX11_tried_29 (by decide) ?_
      exact E_iret dX11_tried_30 rfl (hq2)
  have cv : v = 0 ∨ v = 1 ∨ v = 2 ∨ v = 3 ∨ v = 4 ∨ v = 5 ∨ v = 6 ∨ v = 7 := by omega
  rcases cv with rfl | rfl | rfl | rfl | rfl | rfl | rfl | rfl
  · skip
    refine E_iload_n dX11_tried_0 rfl ?_
    refine E_zN_lt (a := 0) (tgt := 29) dX11_tried_1 (by decide) (by decide) (fun cw1 => cw1.elim) (fun cw1 => ?_)
    refine E_iload_n dX11_tried_4 rfl ?_
    refine E_bp (nI 7) dX11_tried_5 (by decide) ?_
    refine E_cN_gt (a := 0) (b := 7) (tgt := 29) dX11_tried_7 (by decide) (by decide) (by decide) (fun cw7 => absurd cw7 (by omega)) (fun cw7 => ?_)
    refine E_aload_n dX11_tried_10 rfl ?_
    refine E_iload_n dX11_tried_11 rfl ?_
    refine E_callV (As := [_]) (ci := 10) (kc' := 0) (ks' := 0) (kc := 0) (ks := 0) dX11_tried_12 ok_X11_isTold w_X11_138 i_X11_isTold s_X11_isTold rfl (by decide) rfl (Nat.lt_of_lt_of_le (by decide) hN) rfl rfl rfl (Nat.le_of_ble_eq_true rfl) (Nat.le_of_ble_eq_true rfl) (Nat.le_refl _) (X_isTold (d := 899) hB hX (fun k hk e h0 => ?_) (fun z => ?_))
    · subst e
      refine E_zN_eq (a := 1) (tgt := 29) dX11_tried_15 (by decide) (by decide) (fun cw15 => absurd cw15 (by omega)) (fun cw15 => ?_)
      refine E_aload_n dX11_tried_18 rfl ?_
      refine E_iload_n dX11_tried_19 rfl ?_
      refine E_ic (nI 1) dX11_tried_20 (by decide) ?_
      refine E_bp (nI 60) dX11_tried_21 (by decide) ?_
      refine E_callV (As := [_, _, _]) (ci := 10) (kc' := 0) (ks' := 0) (kc := 0) (ks := 0) dX11_tried_23 ok_X11_tapeHas w_X11_113 i_X11_tapeHas s_X11_tapeHas rfl (by decide) rfl (Nat.lt_of_lt_of_le (by decide) hN) rfl rfl rfl (Nat.le_of_ble_eq_true rfl) (Nat.le_of_ble_eq_true rfl) (Nat.le_refl _) (X_tapeHas (d := 899) (by decide) (by decide) hB hX (fun m h1 h2 h3 e => ?_) (fun z => ?_))
      · subst e
        have hg : gTr σ (nI k) (nI m) (nI 0) := ⟨⟨tk_of hk h0, tp_of h1 h2 h3⟩, rg_of (by decide)⟩
        rw [gd_t hg, gd_t hg, nI_clamp (n := m) (by omega), nI_clamp (n := k) (by omega), nI_clamp (n := 0) (by decide)] at hQ
        have hc := tp_okc hB h3
        refine E_zN_ne (a := 1) (tgt := 31) dX11_tried_26 (by decide) (by decide) (fun cw26 => ?_) (fun cw26 => absurd cw26 (by omega))
        refine E_aload_n dX11_tried_31 rfl ?_
        refine E_iload_n dX11_tried_32 rfl ?_
        refine E_iload_n dX11_tried_33 rfl ?_
        refine E_callV (As := [_, _]) (ci := 10) (kc' := 0) (ks' := 0) (kc := 0) (ks := 0) dX11_tried_34 ok_X11_rehearse w_X11_142 i_X11_rehearse s_X11_rehearse rfl (by decide) rfl (Nat.lt_of_lt_of_le (by decide) hN) rfl rfl rfl (Nat.le_of_ble_eq_true rfl) (Nat.le_of_ble_eq_true rfl) (Nat.le_refl _) (x_rehearse (d := 886) hN hB hX hq hl hk h3 ?_)
        cases hr : rdS 0 96 m (ccS (tpS σ) m) with
        | inl z =>
          have hQ : ∀ (I' : IM) (J' : JM) (R' : RM), XR (u0 σ) n I' R' → (∀ a, 3 ≤ a → a ≤ 8 → I' a = I a) → (∀ a, 114 ≤ a → a < 152 → I' a = I a) → Q (some (.int (z))) n I' J' R' := by rw [hr] at hQ; exact hQ
          intro I4 R4 hn2 f4
          refine E_istore dX11_tried_37 (Nat.le_of_ble_eq_true rfl) ?_
          refine E_iload dX11_tried_39 rfl ?_
          refine E_if_ge (tgt := 47) dX11_tried_41 (by decide) (fun cw41 => by first | exact absurd cw41 (fun y => absurd (rd_neg hc (by omega) hr) (Int32.not_lt.mpr y)) | exact absurd (fun y => absurd (rd_neg hc (by omega) hr) (Int32.not_lt.mpr y)) cw41) (fun cw41 => ?_)
          refine E_iload dX11_tried_44 rfl ?_
          exact E_iret dX11_tried_46 rfl (hQ I4 J R4 (XRn (u0_X hX) hn2 (fun a h1 h2 => f4 a (by omega) (by omega) (by omega) (by omega) (by omega) (by omega)) (f4 0 (by decide) (by decide) (by decide) (by decide) (by decide) (by decide)) (f4 2 (by decide) (by decide) (by decide) (by decide) (by decide) (by decide))) (fun a a1 a2 => (f4 a (by omega) (by omega) (by omega) (by omega) (by omega) (by omega)).trans (up2_o I 0 2 _ a (by omega))) (fun a a1 a2 => (f4 a (by omega) (by omega) (by omega) (by omega) (by omega) (by omega)).trans (up2_o I 0 2 _ a (by omega))))
        | inr r =>
          have hQ : ∀ (I' : IM) (J' : JM) (R' : RM), XR (u0 σ) n I' R' → (∀ a, 3 ≤ a → a ≤ 8 → I' a = I a) → (∀ a, 114 ≤ a → a < 152 → I' a = I a) → Q (some (.int (askR σ k 0 (rnQ q σ k r)))) n I' J' R' := by rw [hr] at hQ; exact hQ
          have ho := rnQ_ok (q := q) hB hk r
          have hcm := rnQ_c (q := q) (σ := σ) (k := k) r
          intro I4 R4 hn2 f4 hof d4 l4 b4
          revert hQ ho hcm d4 l4 b4
          generalize rnQ q σ k r = o
          intro hQ ho hcm d4 l4 b4
          have o4 := ho.1.2.2.2.2.1
          have n4 := (hB.1 k hk).1
          refine E_istore dX11_tried_37 (Nat.le_of_ble_eq_true rfl) ?_
          refine E_iload dX11_tried_39 rfl ?_
          refine E_zN_ge (a := 0) (tgt := 47) dX11_tried_41 (by decide) (by decide) (fun cw41 => ?_) (fun cw41 => cw41.elim)
          refine E_iload_n dX11_tried_47 rfl ?_
          refine E_tin (tgt := 92) dX11_tried_48 (by decide) (by decide) rfl (by decide) ?_
          refine E_aload_n dX11_tried_92 rfl ?_
          refine E_getR dX11_tried_93 f_X11_47 rfl (Nat.lt_of_lt_of_le (by decide) hN) rfl (hn2.1 _ _ _ rfl) ?_
          refine E_getI dX11_tried_96 f_X11_160 rfl (Nat.lt_of_lt_of_le (by decide) hN) rfl ?_
          refine E.top (d4.2.1) ?_
          exact E_iret dX11_tried_99 rfl (hQ I4 J R4 (XRn (u0_X hX) hn2 (fun a h1 h2 => f4 a (by omega) (by omega) (by omega) (by omega) (by omega) (by omega)) (f4 0 (by decide) (by decide) (by decide) (by decide) (by decide) (by decide)) (f4 2 (by decide) (by decide) (by decide) (by decide) (by decide) (by decide))) (fun a a1 a2 => (f4 a (by omega) (by omega) (by omega) (by omega) (by omega) (by omega)).trans (up2_o I 0 2 _ a (by omega))) (fun a a1 a2 => (f4 a (by omega) (by omega) (by omega) (by omega) (by omega) (by omega)).trans (up2_o I 0 2 _ a (by omega))))
      · have hno : ¬ gTr σ (nI k) w (nI 0) := fun y => z y.1.2
        rw [gd_f hno] at hQ
        rw [gd_f hno] at hQ
        have hq2 := hQ I J R hX (fun _ _ _ => rfl) (fun _ _ _ => rfl)
        refine E_zN_ne (a := 0) (tgt := 31) dX11_tried_26 (by decide) (by decide) (fun cw26 => absurd cw26 (by omega)) (fun cw26 => ?_)
        refine E_ic (-1) dX11_tried_29 (by decide) ?_
        exact E_iret dX11_tried_30 rfl (hq2)
    · have hno : ¬ gTr σ x w (nI 0) := fun y => z y.1.1
      rw [gd_f hno] at hQ
      rw [gd_f hno] at hQ
      have hq2 := hQ I J R hX (fun _ _ _ => rfl) (fun _ _ _ => rfl)
      refine E_zN_eq (a := 0) (tgt := 29) dX11_tried_15 (by decide) (by decide) (fun cw15 => ?_) (fun cw15 => absurd cw15 (by omega))
      refine E_ic (-1) dX11_tried_29 (by decide) ?_
      exact E_iret dX11_tried_30 rfl (hq2)
  · skip
    refine E_iload_n dX11_tried_0 rfl ?_
    refine E_zN_lt (a := 1) (tgt := 29) dX11_tried_1 (by decide) (by decide) (fun cw1 => cw1.elim) (fun cw1 => ?_)
    refine E_iload_n dX11_tried_4 rfl ?_
    refine E_bp (nI 7) dX11_tried_5 (by decide) ?_
    refine E_cN_gt (a := 1) (b := 7) (tgt := 29) dX11_tried_7 (by decide) (by decide) (by decide) (fun cw7 => absurd cw7 (by omega)) (fun cw7 => ?_)
    refine E_aload_n dX11_tried_10 rfl ?_
    refine E_iload_n dX11_tried_11 rfl ?_
    refine E_callV (As := [_]) (ci := 10) (kc' := 0) (ks' := 0) (kc := 0) (ks := 0) dX11_tried_12 ok_X11_isTold w_X11_138 i_X11_isTold s_X11_isTold rfl (by decide) rfl (Nat.lt_of_lt_of_le (by decide) hN) rfl rfl rfl (Nat.le_of_ble_eq_true rfl) (Nat.le_of_ble_eq_true rfl) (Nat.le_refl _) (X_isTold (d := 899) hB hX (fun k hk e h0 => ?_) (fun z => ?_))
    · subst e
      refine E_zN_eq (a := 1) (tgt := 29) dX11_tried_15 (by decide) (by decide) (fun cw15 => absurd cw15 (by omega)) (fun cw15 => ?_)
      refine E_aload_n dX11_tried_18 rfl ?_
      refine E_iload_n dX11_tried_19 rfl ?_
      refine E_ic (nI 1) dX11_tried_20 (by decide) ?_
      refine E_bp (nI 60) dX11_tried_21 (by decide) ?_
      refine E_callV (As := [_, _, _]) (ci := 10) (kc' := 0) (ks' := 0) (kc := 0) (ks := 0) dX11_tried_23 ok_X11_tapeHas w_X11_113 i_X11_tapeHas s_X11_tapeHas rfl (by decide) rfl (Nat.lt_of_lt_of_le (by decide) hN) rfl rfl rfl (Nat.le_of_ble_eq_true rfl) (Nat.le_of_ble_eq_true rfl) (Nat.le_refl _) (X_tapeHas (d := 899) (by decide) (by decide) hB hX (fun m h1 h2 h3 e => ?_) (fun z => ?_))
      · subst e
        have hg : gTr σ (nI k) (nI m) (nI 1) := ⟨⟨tk_of hk h0, tp_of h1 h2 h3⟩, rg_of (by decide)⟩
        rw [gd_t hg, gd_t hg, nI_clamp (n := m) (by omega), nI_clamp (n := k) (by omega), nI_clamp (n := 1) (by decide)] at hQ
        have hc := tp_okc hB h3
        refine E_zN_ne (a := 1) (tgt := 31) dX11_tried_26 (by decide) (by decide) (fun cw26 => ?_) (fun cw26 => absurd cw26 (by omega))
        refine E_aload_n dX11_tried_31 rfl ?_
        refine E_iload_n dX11_tried_32 rfl ?_
        refine E_iload_n dX11_tried_33 rfl ?_
        refine E_callV (As := [_, _]) (ci := 10) (kc' := 0) (ks' := 0) (kc := 0) (ks := 0) dX11_tried_34 ok_X11_rehearse w_X11_142 i_X11_rehearse s_X11_rehearse rfl (by decide) rfl (Nat.lt_of_lt_of_le (by decide) hN) rfl rfl rfl (Nat.le_of_ble_eq_true rfl) (Nat.le_of_ble_eq_true rfl) (Nat.le_refl _) (x_rehearse (d := 886) hN hB hX hq hl hk h3 ?_)
        cases hr : rdS 0 96 m (ccS (tpS σ) m) with
        | inl z =>
          have hQ : ∀ (I' : IM) (J' : JM) (R' : RM), XR (u0 σ) n I' R' → (∀ a, 3 ≤ a → a ≤ 8 → I' a = I a) → (∀ a, 114 ≤ a → a < 152 → I' a = I a) → Q (some (.int (z))) n I' J' R' := by rw [hr] at hQ; exact hQ
          intro I4 R4 hn2 f4
          refine E_istore dX11_tried_37 (Nat.le_of_ble_eq_true rfl) ?_
          refine E_iload dX11_tried_39 rfl ?_
          refine E_if_ge (tgt := 47) dX11_tried_41 (by decide) (fun cw41 => by first | exact absurd cw41 (fun y => absurd (rd_neg hc (by omega) hr) (Int32.not_lt.mpr y)) | exact absurd (fun y => absurd (rd_neg hc (by omega) hr) (Int32.not_lt.mpr y)) cw41) (fun cw41 => ?_)
          refine E_iload dX11_tried_44 rfl ?_
          exact E_iret dX11_tried_46 rfl (hQ I4 J R4 (XRn (u0_X hX) hn2 (fun a h1 h2 => f4 a (by omega) (by omega) (by omega) (by omega) (by omega) (by omega)) (f4 0 (by decide) (by decide) (by decide) (by decide) (by decide) (by decide)) (f4 2 (by decide) (by decide) (by decide) (by decide) (by decide) (by decide))) (fun a a1 a2 => (f4 a (by omega) (by omega) (by omega) (by omega) (by omega) (by omega)).trans (up2_o I 0 2 _ a (by omega))) (fun a a1 a2 => (f4 a (by omega) (by omega) (by omega) (by omega) (by omega) (by omega)).trans (up2_o I 0 2 _ a (by omega))))
        | inr r =>
          have hQ : ∀ (I' : IM) (J' : JM) (R' : RM), XR (u0 σ) n I' R' → (∀ a, 3 ≤ a → a ≤ 8 → I' a = I a) → (∀ a, 114 ≤ a → a < 152 → I' a = I a) → Q (some (.int (askR σ k 1 (rnQ q σ k r)))) n I' J' R' := by rw [hr] at hQ; exact hQ
          have ho := rnQ_ok (q := q) hB hk r
          have hcm := rnQ_c (q := q) (σ := σ) (k := k) r
          intro I4 R4 hn2 f4 hof d4 l4 b4
          revert hQ ho hcm d4 l4 b4
          generalize rnQ q σ k r = o
          intro hQ ho hcm d4 l4 b4
          have o4 := ho.1.2.2.2.2.1
          have n4 := (hB.1 k hk).1
          refine E_istore dX11_tried_37 (Nat.le_of_ble_eq_true rfl) ?_
          refine E_iload dX11_tried_39 rfl ?_
          refine E_zN_ge (a := 0) (tgt := 47) dX11_tried_41 (by decide) (by decide) (fun cw41 => ?_) (fun cw41 => cw41.elim)
          refine E_iload_n dX11_tried_47 rfl ?_
          refine E_tin (tgt := 100) dX11_tried_48 (by decide) (by decide) rfl (by decide) ?_
          refine E_aload_n dX11_tried_100 rfl ?_
          refine E_getR dX11_tried_101 f_X11_47 rfl (Nat.lt_of_lt_of_le (by decide) hN) rfl (hn2.1 _ _ _ rfl) ?_
          refine E_getI dX11_tried_104 f_X11_168 rfl (Nat.lt_of_lt_of_le (by decide) hN) rfl ?_
          refine E.top (b4) ?_
          exact E_iret dX11_tried_107 rfl (hQ I4 J R4 (XRn (u0_X hX) hn2 (fun a h1 h2 => f4 a (by omega) (by omega) (by omega) (by omega) (by omega) (by omega)) (f4 0 (by decide) (by decide) (by decide) (by decide) (by decide) (by decide)) (f4 2 (by decide) (by decide) (by decide) (by decide) (by decide) (by decide))) (fun a a1 a2 => (f4 a (by omega) (by omega) (by omega) (by omega) (by omega) (by omega)).trans (up2_o I 0 2 _ a (by omega))) (fun a a1 a2 => (f4 a (by omega) (by omega) (by omega) (by omega) (by omega) (by omega)).trans (up2_o I 0 2 _ a (by omega))))
      · have hno : ¬ gTr σ (nI k) w (nI 1) := fun y => z y.1.2
        rw [gd_f hno] at hQ
        rw [gd_f hno] at hQ
        have hq2 := hQ I J R hX (fun _ _ _ => rfl) (fun _ _ _ => rfl)
        refine E_zN_ne (a := 0) (tgt := 31) dX11_tried_26 (by decide) (by decide) (fun cw26 => absurd cw26 (by omega)) (fun cw26 => ?_)
        refine E_ic (-1) dX11_tried_29 (by decide) ?_
        exact E_iret dX11_tried_30 rfl (hq2)
    · have hno : ¬ gTr σ x w (nI 1) := fun y => z y.1.1
      rw [gd_f hno] at hQ
      rw [gd_f hno] at hQ
      have hq2 := hQ I J R hX (fun _ _ _ => rfl) (fun _ _ _ => rfl)
      refine E_zN_eq (a := 0) (tgt := 29) dX11_tried_15 (by decide) (by decide) (fun cw15 => ?_) (fun cw15 => absurd cw15 (by omega))
      refine E_ic (-1) dX11_tried_29 (by decide) ?_
      exact E_iret dX11_tried_30 rfl (hq2)
  · skip
    refine E_iload_n dX11_tried_0 rfl ?_
    refine E_zN_lt (a := 2) (tgt := 29) dX11_tried_1 (by decide) (by decide) (fun cw1 => cw1.elim) (fun cw1 => ?_)
    refine E_iload_n dX11_tried_4 rfl ?_
    refine E_bp (nI 7) dX11_tried_5 (by decide) ?_
    refine E_cN_gt (a := 2) (b := 7) (tgt := 29) dX11_tried_7 (by decide) (by decide) (by decide) (fun cw7 => absurd cw7 (by omega)) (fun cw7 => ?_)
    refine E_aload_n dX11_tried_10 rfl ?_
    refine E_iload_n dX11_tried_11 rfl ?_
    refine E_callV (As := [_]) (ci := 10) (kc' := 0) (ks' := 0) (kc := 0) (ks := 0) dX11_tried_12 ok_X11_isTold w_X11_138 i_X11_isTold s_X11_isTold rfl (by decide) rfl (Nat.lt_of_lt_of_le (by decide) hN) rfl rfl rfl (Nat.le_of_ble_eq_true rfl) (Nat.le_of_ble_eq_true rfl) (Nat.le_refl _) (X_isTold (d := 899) hB hX (fun k hk e h0 => ?_) (fun z => ?_))
    · subst e
      refine E_zN_eq (a := 1) (tgt := 29) dX11_tried_15 (by decide) (by decide) (fun cw15 => absurd cw15 (by omega)) (fun cw15 => ?_)
      refine E_aload_n dX11_tried_18 rfl ?_
      refine E_iload_n dX11_tried_19 rfl ?_
      refine E_ic (nI 1) dX11_tried_20 (by decide) ?_
      refine E_bp (nI 60) dX11_tried_21 (by decide) ?_
      refine E_callV (As := [_, _, _]) (ci := 10) (kc' := 0) (ks' := 0) (kc := 0) (ks := 0) dX11_tried_23 ok_X11_tapeHas w_X11_113 i_X11_tapeHas s_X11_tapeHas rfl (by decide) rfl (Nat.lt_of_lt_of_le (by decide) hN) rfl rfl rfl (Nat.le_of_ble_eq_true rfl) (Nat.le_of_ble_eq_true rfl) (Nat.le_refl _) (X_tapeHas (d := 899) (by decide) (by decide) hB hX (fun m h1 h2 h3 e => ?_) (fun z => ?_))
      · subst e
        have hg : gTr σ (nI k) (nI m) (nI 2) := ⟨⟨tk_of hk h0, tp_of h1 h2 h3⟩, rg_of (by decide)⟩
        rw [gd_t hg, gd_t hg, nI_clamp (n := m) (by omega), nI_clamp (n := k) (by omega), nI_clamp (n := 2) (by decide)] at hQ
        have hc := tp_okc hB h3
        refine E_zN_ne (a := 1) (tgt := 31) dX11_tried_26 (by decide) (by decide) (fun cw26 => ?_) (fun cw26 => absurd cw26 (by omega))
        refine E_aload_n dX11_tried_31 rfl ?_
        refine E_iload_n dX11_tried_32 rfl ?_
        refine E_iload_n dX11_tried_33 rfl ?_
        refine E_callV (As := [_, _]) (ci := 10) (kc' := 0) (ks' := 0) (kc := 0) (ks := 0) dX11_tried_34 ok_X11_rehearse w_X11_142 i_X11_rehearse s_X11_rehearse rfl (by decide) rfl (Nat.lt_of_lt_of_le (by decide) hN) rfl rfl rfl (Nat.le_of_ble_eq_true rfl) (Nat.le_of_ble_eq_true rfl) (Nat.le_refl _) (x_rehearse (d := 886) hN hB hX hq hl hk h3 ?_)
        cases hr : rdS 0 96 m (ccS (tpS σ) m) with
        | inl z =>
          have hQ : ∀ (I' : IM) (J' : JM) (R' : RM), XR (u0 σ) n I' R' → (∀ a, 3 ≤ a → a ≤ 8 → I' a = I a) → (∀ a, 114 ≤ a → a < 152 → I' a = I a) → Q (some (.int (z))) n I' J' R' := by rw [hr] at hQ; exact hQ
          intro I4 R4 hn2 f4
          refine E_istore dX11_tried_37 (Nat.le_of_ble_eq_true rfl) ?_
          refine E_iload dX11_tried_39 rfl ?_
          refine E_if_ge (tgt := 47) dX11_tried_41 (by decide) (fun cw41 => by first | exact absurd cw41 (fun y => absurd (rd_neg hc (by omega) hr) (Int32.not_lt.mpr y)) | exact absurd (fun y => absurd (rd_neg hc (by omega) hr) (Int32.not_lt.mpr y)) cw41) (fun cw41 => ?_)
          refine E_iload dX11_tried_44 rfl ?_
          exact E_iret dX11_tried_46 rfl (hQ I4 J R4 (XRn (u0_X hX) hn2 (fun a h1 h2 => f4 a (by omega) (by omega) (by omega) (by omega) (by omega) (by omega)) (f4 0 (by decide) (by decide) (by decide) (by decide) (by decide) (by decide)) (f4 2 (by decide) (by decide) (by decide) (by decide) (by decide) (by decide))) (fun a a1 a2 => (f4 a (by omega) (by omega) (by omega) (by omega) (by omega) (by omega)).trans (up2_o I 0 2 _ a (by omega))) (fun a a1 a2 => (f4 a (by omega) (by omega) (by omega) (by omega) (by omega) (by omega)).trans (up2_o I 0 2 _ a (by omega))))
        | inr r =>
          have hQ : ∀ (I' : IM) (J' : JM) (R' : RM), XR (u0 σ) n I' R' → (∀ a, 3 ≤ a → a ≤ 8 → I' a = I a) → (∀ a, 114 ≤ a → a < 152 → I' a = I a) → Q (some (.int (askR σ k 2 (rnQ q σ k r)))) n I' J' R' := by rw [hr] at hQ; exact hQ
          have ho := rnQ_ok (q := q) hB hk r
          have hcm := rnQ_c (q := q) (σ := σ) (k := k) r
          intro I4 R4 hn2 f4 hof d4 l4 b4
          revert hQ ho hcm d4 l4 b4
          generalize rnQ q σ k r = o
          intro hQ ho hcm d4 l4 b4
          have o4 := ho.1.2.2.2.2.1
          have n4 := (hB.1 k hk).1
          refine E_istore dX11_tried_37 (Nat.le_of_ble_eq_true rfl) ?_
          refine E_iload dX11_tried_39 rfl ?_
          refine E_zN_ge (a := 0) (tgt := 47) dX11_tried_41 (by decide) (by decide) (fun cw41 => ?_) (fun cw41 => cw41.elim)
          refine E_iload_n dX11_tried_47 rfl ?_
          refine E_tin (tgt := 108) dX11_tried_48 (by decide) (by decide) rfl (by decide) ?_
          refine E_aload_n dX11_tried_108 rfl ?_
          refine E_getR dX11_tried_109 f_X11_47 rfl (Nat.lt_of_lt_of_le (by decide) hN) rfl (hn2.1 _ _ _ rfl) ?_
          refine E_getR dX11_tried_112 f_X11_150 rfl (Nat.lt_of_lt_of_le (by decide) hN) rfl (hn2.1 _ _ _ rfl) ?_
          refine E_getI dX11_tried_115 f_X11_171 rfl (Nat.lt_of_lt_of_le (by decide) hN) rfl ?_
          refine E.top (d4.2.2 0 (by decide)) ?_
          exact E_iret dX11_tried_118 rfl (hQ I4 J R4 (XRn (u0_X hX) hn2 (fun a h1 h2 => f4 a (by omega) (by omega) (by omega) (by omega) (by omega) (by omega)) (f4 0 (by decide) (by decide) (by decide) (by decide) (by decide) (by decide)) (f4 2 (by decide) (by decide) (by decide) (by decide) (by decide) (by decide))) (fun a a1 a2 => (f4 a (by omega) (by omega) (by omega) (by omega) (by omega) (by omega)).trans (up2_o I 0 2 _ a (by omega))) (fun a a1 a2 => (f4 a (by omega) (by omega) (by omega) (by omega) (by omega) (by omega)).trans (up2_o I 0 2 _ a (by omega))))
      · have hno : ¬ gTr σ (nI k) w (nI 2) := fun y => z y.1.2
        rw [gd_f hno] at hQ
        rw [gd_f hno] at hQ
        have hq2 := hQ I J R hX (fun _ _ _ => rfl) (fun _ _ _ => rfl)
        refine E_zN_ne (a := 0) (tgt := 31) dX11_tried_26 (by decide) (by decide) (fun cw26 => absurd cw26 (by omega)) (fun cw26 => ?_)
        refine E_ic (-1) dX11_tried_29 (by decide) ?_
        exact E_iret dX11_tried_30 rfl (hq2)
    · have hno : ¬ gTr σ x w (nI 2) := fun y => z y.1.1
      rw [gd_f hno] at hQ
      rw [gd_f hno] at hQ
      have hq2 := hQ I J R hX (fun _ _ _ => rfl) (fun _ _ _ => rfl)
      refine E_zN_eq (a := 0) (tgt := 29) dX11_tried_15 (by decide) (by decide) (fun cw15 => ?_) (fun cw15 => absurd cw15 (by omega))
      refine E_ic (-1) dX11_tried_29 (by decide) ?_
      exact E_iret dX11_tried_30 rfl (hq2)
  · skip
    refine E_iload_n dX11_tried_0 rfl ?_
    refine E_zN_lt (a := 3) (tgt := 29) dX11_tried_1 (by decide) (by decide) (fun cw1 => cw1.elim) (fun cw1 => ?_)
    refine E_iload_n dX11_tried_4 rfl ?_
    refine E_bp (nI 7) dX11_tried_5 (by decide) ?_
    refine E_cN_gt (a := 3) (b := 7) (tgt := 29) dX11_tried_7 (by decide) (by decide) (by decide) (fun cw7 => absurd cw7 (by omega)) (fun cw7 => ?_)
    refine E_aload_n dX11_tried_10 rfl ?_
    refine E_iload_n dX11_tried_11 rfl ?_
    refine E_callV (As := [_]) (ci := 10) (kc' := 0) (ks' := 0) (kc := 0) (ks := 0) dX11_tried_12 ok_X11_isTold w_X11_138 i_X11_isTold s_X11_isTold rfl (by decide) rfl (Nat.lt_of_lt_of_le (by decide) hN) rfl rfl rfl (Nat.le_of_ble_eq_true rfl) (Nat.le_of_ble_eq_true rfl) (Nat.le_refl _) (X_isTold (d := 899) hB hX (fun k hk e h0 => ?_) (fun z => ?_))
    · subst e
      refine E_zN_eq (a := 1) (tgt := 29) dX11_tried_15 (by decide) (by decide) (fun cw15 => absurd cw15 (by omega)) (fun cw15 => ?_)
      refine E_aload_n dX11_tried_18 rfl ?_
      refine E_iload_n dX11_tried_19 rfl ?_
      refine E_ic (nI 1) dX11_tried_20 (by decide) ?_
      refine E_bp (nI 60) dX11_tried_21 (by decide) ?_
      refine E_callV (As := [_, _, _]) (ci := 10) (kc' := 0) (ks' := 0) (kc := 0) (ks := 0) dX11_tried_23 ok_X11_tapeHas w_X11_113 i_X11_tapeHas s_X11_tapeHas rfl (by decide) rfl (Nat.lt_of_lt_of_le (by decide) hN) rfl rfl rfl (Nat.le_of_ble_eq_true rfl) (Nat.le_of_ble_eq_true rfl) (Nat.le_refl _) (X_tapeHas (d := 899) (by decide) (by decide) hB hX (fun m h1 h2 h3 e => ?_) (fun z => ?_))
      · subst e
        have hg : gTr σ (nI k) (nI m) (nI 3) := ⟨⟨tk_of hk h0, tp_of h1 h2 h3⟩, rg_of (by decide)⟩
        rw [gd_t hg, gd_t hg, nI_clamp (n := m) (by omega), nI_clamp (n := k) (by omega), nI_clamp (n := 3) (by decide)] at hQ
        have hc := tp_okc hB h3
        refine E_zN_ne (a := 1) (tgt := 31) dX11_tried_26 (by decide) (by decide) (fun cw26 => ?_) (fun cw26 => absurd cw26 (by omega))
        refine E_aload_n dX11_tried_31 rfl ?_
        refine E_iload_n dX11_tried_32 rfl ?_
        refine E_iload_n dX11_tried_33 rfl ?_
        refine E_callV (As := [_, _]) (ci := 10) (kc' := 0) (ks' := 0) (kc := 0) (ks := 0) dX11_tried_34 ok_X11_rehearse w_X11_142 i_X11_rehearse s_X11_rehearse rfl (by decide) rfl (Nat.lt_of_lt_of_le (by decide) hN) rfl rfl rfl (Nat.le_of_ble_eq_true rfl) (Nat.le_of_ble_eq_true rfl) (Nat.le_refl _) (x_rehearse (d := 886) hN hB hX hq hl hk h3 ?_)
        cases hr : rdS 0 96 m (ccS (tpS σ) m) with
        | inl z =>
          have hQ : ∀ (I' : IM) (J' : JM) (R' : RM), XR (u0 σ) n I' R' → (∀ a, 3 ≤ a → a ≤ 8 → I' a = I a) → (∀ a, 114 ≤ a → a < 152 → I' a = I a) → Q (some (.int (z))) n I' J' R' := by rw [hr] at hQ; exact hQ
          intro I4 R4 hn2 f4
          refine E_istore dX11_tried_37 (Nat.le_of_ble_eq_true rfl) ?_
          refine E_iload dX11_tried_39 rfl ?_
          refine E_if_ge (tgt := 47) dX11_tried_41 (by decide) (fun cw41 => by first | exact absurd cw41 (fun y => absurd (rd_neg hc (by omega) hr) (Int32.not_lt.mpr y)) | exact absurd (fun y => absurd (rd_neg hc (by omega) hr) (Int32.not_lt.mpr y)) cw41) (fun cw41 => ?_)
          refine E_iload dX11_tried_44 rfl ?_
          exact E_iret dX11_tried_46 rfl (hQ I4 J R4 (XRn (u0_X hX) hn2 (fun a h1 h2 => f4 a (by omega) (by omega) (by omega) (by omega) (by omega) (by omega)) (f4 0 (by decide) (by decide) (by decide) (by decide) (by decide) (by decide)) (f4 2 (by decide) (by decide) (by decide) (by decide) (by decide) (by decide))) (fun a a1 a2 => (f4 a (by omega) (by omega) (by omega) (by omega) (by omega) (by omega)).trans (up2_o I 0 2 _ a (by omega))) (fun a a1 a2 => (f4 a (by omega) (by omega) (by omega) (by omega) (by omega) (by omega)).trans (up2_o I 0 2 _ a (by omega))))
        | inr r =>
          have hQ : ∀ (I' : IM) (J' : JM) (R' : RM), XR (u0 σ) n I' R' → (∀ a, 3 ≤ a → a ≤ 8 → I' a = I a) → (∀ a, 114 ≤ a → a < 152 → I' a = I a) → Q (some (.int (askR σ k 3 (rnQ q σ k r)))) n I' J' R' := by rw [hr] at hQ; exact hQ
          have ho := rnQ_ok (q := q) hB hk r
          have hcm := rnQ_c (q := q) (σ := σ) (k := k) r
          intro I4 R4 hn2 f4 hof d4 l4 b4
          revert hQ ho hcm d4 l4 b4
          generalize rnQ q σ k r = o
          intro hQ ho hcm d4 l4 b4
          have o4 := ho.1.2.2.2.2.1
          have n4 := (hB.1 k hk).1
          refine E_istore dX11_tried_37 (Nat.le_of_ble_eq_true rfl) ?_
          refine E_iload dX11_tried_39 rfl ?_
          refine E_zN_ge (a := 0) (tgt := 47) dX11_tried_41 (by decide) (by decide) (fun cw41 => ?_) (fun cw41 => cw41.elim)
          refine E_iload_n dX11_tried_47 rfl ?_
          refine E_tin (tgt := 119) dX11_tried_48 (by decide) (by decide) rfl (by decide) ?_
          refine E_aload_n dX11_tried_119 rfl ?_
          refine E_getR dX11_tried_120 f_X11_47 rfl (Nat.lt_of_lt_of_le (by decide) hN) rfl (hn2.1 _ _ _ rfl) ?_
          refine E_getR dX11_tried_123 f_X11_150 rfl (Nat.lt_of_lt_of_le (by decide) hN) rfl (hn2.1 _ _ _ rfl) ?_
          refine E_getI dX11_tried_126 f_X11_174 rfl (Nat.lt_of_lt_of_le (by decide) hN) rfl ?_
          refine E.top (d4.2.2 1 (by decide)) ?_
          exact E_iret dX11_tried_129 rfl (hQ I4 J R4 (XRn (u0_X hX) hn2 (fun a h1 h2 => f4 a (by omega) (by omega) (by omega) (by omega) (by omega) (by omega)) (f4 0 (by decide) (by decide) (by decide) (by decide) (by decide) (by decide)) (f4 2 (by decide) (by decide) (by decide) (by decide) (by decide) (by decide))) (fun a a1 a2 => (f4 a (by omega) (by omega) (by omega) (by omega) (by omega) (by omega)).trans (up2_o I 0 2 _ a (by omega))) (fun a a1 a2 => (f4 a (by omega) (by omega) (by omega) (by omega) (by omega) (by omega)).trans (up2_o I 0 2 _ a (by omega))))
      · have hno : ¬ gTr σ (nI k) w (nI 3) := fun y => z y.1.2
        rw [gd_f hno] at hQ
        rw [gd_f hno] at hQ
        have hq2 := hQ I J R hX (fun _ _ _ => rfl) (fun _ _ _ => rfl)
        refine E_zN_ne (a := 0) (tgt := 31) dX11_tried_26 (by decide) (by decide) (fun cw26 => absurd cw26 (by omega)) (fun cw26 => ?_)
        refine E_ic (-1) dX11_tried_29 (by decide) ?_
        exact E_iret dX11_tried_30 rfl (hq2)
    · have hno : ¬ gTr σ x w (nI 3) := fun y => z y.1.1
      rw [gd_f hno] at hQ
      rw [gd_f hno] at hQ
      have hq2 := hQ I J R hX (fun _ _ _ => rfl) (fun _ _ _ => rfl)
      refine E_zN_eq (a := 0) (tgt := 29) dX11_tried_15 (by decide) (by decide) (fun cw15 => ?_) (fun cw15 => absurd cw15 (by omega))
      refine E_ic (-1) dX11_tried_29 (by decide) ?_
      exact E_iret dX11_tried_30 rfl (hq2)
  · skip
    refine E_iload_n dX11_tried_0 rfl ?_
    refine E_zN_lt (a := 4) (tgt := 29) dX11_tried_1 (by decide) (by decide) (fun cw1 => cw1.elim) (fun cw1 => ?_)
    refine E_iload_n dX11_tried_4 rfl ?_
    refine E_bp (nI 7) dX11_tried_5 (by decide) ?_
    refine E_cN_gt (a := 4) (b := 7) (tgt := 29) dX11_tried_7 (by decide) (by decide) (by decide) (fun cw7 => absurd cw7 (by omega)) (fun cw7 => ?_)
    refine E_aload_n dX11_tried_10 rfl ?_
    refine E_iload_n dX11_tried_11 rfl ?_
    refine E_callV (As := [_]) (ci := 10) (kc' := 0) (ks' := 0) (kc := 0) (ks := 0) dX11_tried_12 ok_X11_isTold w_X11_138 i_X11_isTold s_X11_isTold rfl (by decide) rfl (Nat.lt_of_lt_of_le (by decide) hN) rfl rfl rfl (Nat.le_of_ble_eq_true rfl) (Nat.le_of_ble_eq_true rfl) (Nat.le_refl _) (X_isTold (d := 899) hB hX (fun k hk e h0 => ?_) (fun z => ?_))
    · subst e
      refine E_zN_eq (a := 1) (tgt := 29) dX11_tried_15 (by decide) (by decide) (fun cw15 => absurd cw15 (by omega)) (fun cw15 => ?_)
      refine E_aload_n dX11_tried_18 rfl ?_
      refine E_iload_n dX11_tried_19 rfl ?_
      refine E_ic (nI 1) dX11_tried_20 (by decide) ?_
      refine E_bp (nI 60) dX11_tried_21 (by decide) ?_
      refine E_callV (As := [_, _, _]) (ci := 10) (kc' := 0) (ks' := 0) (kc := 0) (ks := 0) dX11_tried_23 ok_X11_tapeHas w_X11_113 i_X11_tapeHas s_X11_tapeHas rfl (by decide) rfl (Nat.lt_of_lt_of_le (by decide) hN) rfl rfl rfl (Nat.le_of_ble_eq_true rfl) (Nat.le_of_ble_eq_true rfl) (Nat.le_refl _) (X_tapeHas (d := 899) (by decide) (by decide) hB hX (fun m h1 h2 h3 e => ?_) (fun z => ?_))
      · subst e
        have hg : gTr σ (nI k) (nI m) (nI 4) := ⟨⟨tk_of hk h0, tp_of h1 h2 h3⟩, rg_of (by decide)⟩
        rw [gd_t hg, gd_t hg, nI_clamp (n := m) (by omega), nI_clamp (n := k) (by omega), nI_clamp (n := 4) (by decide)] at hQ
        have hc := tp_okc hB h3
        refine E_zN_ne (a := 1) (tgt := 31) dX11_tried_26 (by decide) (by decide) (fun cw26 => ?_) (fun cw26 => absurd cw26 (by omega))
        refine E_aload_n dX11_tried_31 rfl ?_
        refine E_iload_n dX11_tried_32 rfl ?_
        refine E_iload_n dX11_tried_33 rfl ?_
        refine E_callV (As := [_, _]) (ci := 10) (kc' := 0) (ks' := 0) (kc := 0) (ks := 0) dX11_tried_34 ok_X11_rehearse w_X11_142 i_X11_rehearse s_X11_rehearse rfl (by decide) rfl (Nat.lt_of_lt_of_le (by decide) hN) rfl rfl rfl (Nat.le_of_ble_eq_true rfl) (Nat.le_of_ble_eq_true rfl) (Nat.le_refl _) (x_rehearse (d := 886) hN hB hX hq hl hk h3 ?_)
        cases hr : rdS 0 96 m (ccS (tpS σ) m) with
        | inl z =>
          have hQ : ∀ (I' : IM) (J' : JM) (R' : RM), XR (u0 σ) n I' R' → (∀ a, 3 ≤ a → a ≤ 8 → I' a = I a) → (∀ a, 114 ≤ a → a < 152 → I' a = I a) → Q (some (.int (z))) n I' J' R' := by rw [hr] at hQ; exact hQ
          intro I4 R4 hn2 f4
          refine E_istore dX11_tried_37 (Nat.le_of_ble_eq_true rfl) ?_
          refine E_iload dX11_tried_39 rfl ?_
          refine E_if_ge (tgt := 47) dX11_tried_41 (by decide) (fun cw41 => by first | exact absurd cw41 (fun y => absurd (rd_neg hc (by omega) hr) (Int32.not_lt.mpr y)) | exact absurd (fun y => absurd (rd_neg hc (by omega) hr) (Int32.not_lt.mpr y)) cw41) (fun cw41 => ?_)
          refine E_iload dX11_tried_44 rfl ?_
          exact E_iret dX11_tried_46 rfl (hQ I4 J R4 (XRn (u0_X hX) hn2 (fun a h1 h2 => f4 a (by omega) (by omega) (by omega) (by omega) (by omega) (by omega)) (f4 0 (by decide) (by decide) (by decide) (by decide) (by decide) (by decide)) (f4 2 (by decide) (by decide) (by decide) (by decide) (by decide) (by decide))) (fun a a1 a2 => (f4 a (by omega) (by omega) (by omega) (by omega) (by omega) (by omega)).trans (up2_o I 0 2 _ a (by omega))) (fun a a1 a2 => (f4 a (by omega) (by omega) (by omega) (by omega) (by omega) (by omega)).trans (up2_o I 0 2 _ a (by omega))))
        | inr r =>
          have hQ : ∀ (I' : IM) (J' : JM) (R' : RM), XR (u0 σ) n I' R' → (∀ a, 3 ≤ a → a ≤ 8 → I' a = I a) → (∀ a, 114 ≤ a → a < 152 → I' a = I a) → Q (some (.int (askR σ k 4 (rnQ q σ k r)))) n I' J' R' := by rw [hr] at hQ; exact hQ
          have ho := rnQ_ok (q := q) hB hk r
          have hcm := rnQ_c (q := q) (σ := σ) (k := k) r
          intro I4 R4 hn2 f4 hof d4 l4 b4
          revert hQ ho hcm d4 l4 b4
          generalize rnQ q σ k r = o
          intro hQ ho hcm d4 l4 b4
          have o4 := ho.1.2.2.2.2.1
          have n4 := (hB.1 k hk).1
          refine E_istore dX11_tried_37 (Nat.le_of_ble_eq_true rfl) ?_
          refine E_iload dX11_tried_39 rfl ?_
          refine E_zN_ge (a := 0) (tgt := 47) dX11_tried_41 (by decide) (by decide) (fun cw41 => ?_) (fun cw41 => cw41.elim)
          refine E_iload_n dX11_tried_47 rfl ?_
          refine E_tin (tgt := 130) dX11_tried_48 (by decide) (by decide) rfl (by decide) ?_
          refine E_aload_n dX11_tried_130 rfl ?_
          refine E_getR dX11_tried_131 f_X11_47 rfl (Nat.lt_of_lt_of_le (by decide) hN) rfl (hn2.1 _ _ _ rfl) ?_
          refine E_getR dX11_tried_134 f_X11_150 rfl (Nat.lt_of_lt_of_le (by decide) hN) rfl (hn2.1 _ _ _ rfl) ?_
          refine E_getI dX11_tried_137 f_X11_177 rfl (Nat.lt_of_lt_of_le (by decide) hN) rfl ?_
          refine E.top (d4.2.2 2 (by decide)) ?_
          exact E_iret dX11_tried_140 rfl (hQ I4 J R4 (XRn (u0_X hX) hn2 (fun a h1 h2 => f4 a (by omega) (by omega) (by omega) (by omega) (by omega) (by omega)) (f4 0 (by decide) (by decide) (by decide) (by decide) (by decide) (by decide)) (f4 2 (by decide) (by decide) (by decide) (by decide) (by decide) (by decide))) (fun a a1 a2 => (f4 a (by omega) (by omega) (by omega) (by omega) (by omega) (by omega)).trans (up2_o I 0 2 _ a (by omega))) (fun a a1 a2 => (f4 a (by omega) (by omega) (by omega) (by omega) (by omega) (by omega)).trans (up2_o I 0 2 _ a (by omega))))
      · have hno : ¬ gTr σ (nI k) w (nI 4) := fun y => z y.1.2
        rw [gd_f hno] at hQ
        rw [gd_f hno] at hQ
        have hq2 := hQ I J R hX (fun _ _ _ => rfl) (fun _ _ _ => rfl)
        refine E_zN_ne (a := 0) (tgt := 31) dX11_tried_26 (by decide) (by decide) (fun cw26 => absurd cw26 (by omega)) (fun cw26 => ?_)
        refine E_ic (-1) dX11_tried_29 (by decide) ?_
        exact E_iret dX11_tried_30 rfl (hq2)
    · have hno : ¬ gTr σ x w (nI 4) := fun y => z y.1.1
      rw [gd_f hno] at hQ
      rw [gd_f hno] at hQ
      have hq2 := hQ I J R hX (fun _ _ _ => rfl) (fun _ _ _ => rfl)
      refine E_zN_eq (a := 0) (tgt := 29) dX11_tried_15 (by decide) (by decide) (fun cw15 => ?_) (fun cw15 => absurd cw15 (by omega))
      refine E_ic (-1) dX11_tried_29 (by decide) ?_
      exact E_iret dX11_tried_30 rfl (hq2)
  · skip
    refine E_iload_n dX11_tried_0 rfl ?_
    refine E_zN_lt (a := 5) (tgt := 29) dX11_tried_1 (by decide) (by decide) (fun cw1 => cw1.elim) (fun cw1 => ?_)
    refine E_iload_n dX11_tried_4 rfl ?_
    refine E_bp (nI 7) dX11_tried_5 (by decide) ?_
    refine E_cN_gt (a := 5) (b := 7) (tgt := 29) dX11_tried_7 (by decide) (by decide) (by decide) (fun cw7 => absurd cw7 (by omega)) (fun cw7 => ?_)
    refine E_aload_n dX11_tried_10 rfl ?_
    refine E_iload_n dX11_tried_11 rfl ?_
    refine E_callV (As := [_]) (ci := 10) (kc' := 0) (ks' := 0) (kc := 0) (ks := 0) dX11_tried_12 ok_X11_isTold w_X11_138 i_X11_isTold s_X11_isTold rfl (by decide) rfl (Nat.lt_of_lt_of_le (by decide) hN) rfl rfl rfl (Nat.le_of_ble_eq_true rfl) (Nat.le_of_ble_eq_true rfl) (Nat.le_refl _) (X_isTold (d := 899) hB hX (fun k hk e h0 => ?_) (fun z => ?_))
    · subst e
      refine E_zN_eq (a := 1) (tgt := 29) dX11_tried_15 (by decide) (by decide) (fun cw15 => absurd cw15 (by omega)) (fun cw15 => ?_)
      refine E_aload_n dX11_tried_18 rfl ?_
      refine E_iload_n dX11_tried_19 rfl ?_
      refine E_ic (nI 1) dX11_tried_20 (by decide) ?_
      refine E_bp (nI 60) dX11_tried_21 (by decide) ?_
      refine E_callV (As := [_, _, _]) (ci := 10) (kc' := 0) (ks' := 0) (kc := 0) (ks := 0) dX11_tried_23 ok_X11_tapeHas w_X11_113 i_X11_tapeHas s_X11_tapeHas rfl (by decide) rfl (Nat.lt_of_lt_of_le (by decide) hN) rfl rfl rfl (Nat.le_of_ble_eq_true rfl) (Nat.le_of_ble_eq_true rfl) (Nat.le_refl _) (X_tapeHas (d := 899) (by decide) (by decide) hB hX (fun m h1 h2 h3 e => ?_) (fun z => ?_))
      · subst e
        have hg : gTr σ (nI k) (nI m) (nI 5) := ⟨⟨tk_of hk h0, tp_of h1 h2 h3⟩, rg_of (by decide)⟩
        rw [gd_t hg, gd_t hg, nI_clamp (n := m) (by omega), nI_clamp (n := k) (by omega), nI_clamp (n := 5) (by decide)] at hQ
        have hc := tp_okc hB h3
        refine E_zN_ne (a := 1) (tgt := 31) dX11_tried_26 (by decide) (by decide) (fun cw26 => ?_) (fun cw26 => absurd cw26 (by omega))
        refine E_aload_n dX11_tried_31 rfl ?_
        refine E_iload_n dX11_tried_32 rfl ?_
        refine E_iload_n dX11_tried_33 rfl ?_
        refine E_callV (As := [_, _]) (ci := 10) (kc' := 0) (ks' := 0) (kc := 0) (ks := 0) dX11_tried_34 ok_X11_rehearse w_X11_142 i_X11_rehearse s_X11_rehearse rfl (by decide) rfl (Nat.lt_of_lt_of_le (by decide) hN) rfl rfl rfl (Nat.le_of_ble_eq_true rfl) (Nat.le_of_ble_eq_true rfl) (Nat.le_refl _) (x_rehearse (d := 886) hN hB hX hq hl hk h3 ?_)
        cases hr : rdS 0 96 m (ccS (tpS σ) m) with
        | inl z =>
          have hQ : ∀ (I' : IM) (J' : JM) (R' : RM), XR (u0 σ) n I' R' → (∀ a, 3 ≤ a → a ≤ 8 → I' a = I a) → (∀ a, 114 ≤ a → a < 152 → I' a = I a) → Q (some (.int (z))) n I' J' R' := by rw [hr] at hQ; exact hQ
          intro I4 R4 hn2 f4
          refine E_istore dX11_tried_37 (Nat.le_of_ble_eq_true rfl) ?_
          refine E_iload dX11_tried_39 rfl ?_
          refine E_if_ge (tgt := 47) dX11_tried_41 (by decide) (fun cw41 => by first | exact absurd cw41 (fun y => absurd (rd_neg hc (by omega) hr) (Int32.not_lt.mpr y)) | exact absurd (fun y => absurd (rd_neg hc (by omega) hr) (Int32.not_lt.mpr y)) cw41) (fun cw41 => ?_)
          refine E_iload dX11_tried_44 rfl ?_
          exact E_iret dX11_tried_46 rfl (hQ I4 J R4 (XRn (u0_X hX) hn2 (fun a h1 h2 => f4 a (by omega) (by omega) (by omega) (by omega) (by omega) (by omega)) (f4 0 (by decide) (by decide) (by decide) (by decide) (by decide) (by decide)) (f4 2 (by decide) (by decide) (by decide) (by decide) (by decide) (by decide))) (fun a a1 a2 => (f4 a (by omega) (by omega) (by omega) (by omega) (by omega) (by omega)).trans (up2_o I 0 2 _ a (by omega))) (fun a a1 a2 => (f4 a (by omega) (by omega) (by omega) (by omega) (by omega) (by omega)).trans (up2_o I 0 2 _ a (by omega))))
        | inr r =>
          have hQ : ∀ (I' : IM) (J' : JM) (R' : RM), XR (u0 σ) n I' R' → (∀ a, 3 ≤ a → a ≤ 8 → I' a = I a) → (∀ a, 114 ≤ a → a < 152 → I' a = I a) → Q (some (.int (askR σ k 5 (rnQ q σ k r)))) n I' J' R' := by rw [hr] at hQ; exact hQ
          have ho := rnQ_ok (q := q) hB hk r
          have hcm := rnQ_c (q := q) (σ := σ) (k := k) r
          intro I4 R4 hn2 f4 hof d4 l4 b4
          revert hQ ho hcm d4 l4 b4
          generalize rnQ q σ k r = o
          intro hQ ho hcm d4 l4 b4
          have o4 := ho.1.2.2.2.2.1
          have n4 := (hB.1 k hk).1
          by_cases h4 : o.1 4 = 0
          · have hQ : ∀ (I' : IM) (J' : JM) (R' : RM), XR (u0 σ) n I' R' → (∀ a, 3 ≤ a → a ≤ 8 → I' a = I a) → (∀ a, 114 ≤ a → a < 152 → I' a = I a) → Q (some (.int (nI 0))) n I' J' R' := by rw [show askR σ k 5 o = nI 0 from congrArg nI h4] at hQ; exact hQ
            refine E_istore dX11_tried_37 (Nat.le_of_ble_eq_true rfl) ?_
            refine E_iload dX11_tried_39 rfl ?_
            refine E_zN_ge (a := 0) (tgt := 47) dX11_tried_41 (by decide) (by decide) (fun cw41 => ?_) (fun cw41 => cw41.elim)
            refine E_iload_n dX11_tried_47 rfl ?_
            refine E_tin (tgt := 141) dX11_tried_48 (by decide) (by decide) rfl (by decide) ?_
            refine E_aload_n dX11_tried_141 rfl ?_
            refine E_getR dX11_tried_142 f_X11_47 rfl (Nat.lt_of_lt_of_le (by decide) hN) rfl (hn2.1 _ _ _ rfl) ?_
            refine E_getR dX11_tried_145 f_X11_150 rfl (Nat.lt_of_lt_of_le (by decide) hN) rfl (hn2.1 _ _ _ rfl) ?_
            refine E_getI dX11_tried_148 f_X11_180 rfl (Nat.lt_of_lt_of_le (by decide) hN) rfl ?_
            refine E.top (d4.2.2 4 (by decide)) ?_
            refine E_zN_eq (a := o.1 4) (tgt := 158) dX11_tried_151 (by omega) (by decide) (fun cw151 => ?_) (fun cw151 => absurd cw151 (by omega))
            refine E_ic (nI 0) dX11_tried_158 (by decide) ?_
            exact E_iret dX11_tried_159 rfl (hQ I4 J R4 (XRn (u0_X hX) hn2 (fun a h1 h2 => f4 a (by omega) (by omega) (by omega) (by omega) (by omega) (by omega)) (f4 0 (by decide) (by decide) (by decide) (by decide) (by decide) (by decide)) (f4 2 (by decide) (by decide) (by decide) (by decide) (by decide) (by decide))) (fun a a1 a2 => (f4 a (by omega) (by omega) (by omega) (by omega) (by omega) (by omega)).trans (up2_o I 0 2 _ a (by omega))) (fun a a1 a2 => (f4 a (by omega) (by omega) (by omega) (by omega) (by omega) (by omega)).trans (up2_o I 0 2 _ a (by omega))))
          · have hQ : ∀ (I' : IM) (J' : JM) (R' : RM), XR (u0 σ) n I' R' → (∀ a, 3 ≤ a → a ≤ 8 → I' a = I a) → (∀ a, 114 ≤ a → a < 152 → I' a = I a) → Q (some (.int (nI 1))) n I' J' R' := by rw [show askR σ k 5 o = nI 1 from congrArg nI (show o.1 4 = 1 by omega)] at hQ; exact hQ
            refine E_istore dX11_tried_37 (Nat.le_of_ble_eq_true rfl) ?_
            refine E_iload dX11_tried_39 rfl ?_
            refine E_zN_ge (a := 0) (tgt := 47) dX11_tried_41 (by decide) (by decide) (fun cw41 => ?_) (fun cw41 => cw41.elim)
            refine E_iload_n dX11_tried_47 rfl ?_
            refine E_tin (tgt := 141) dX11_tried_48 (by decide) (by decide) rfl (by decide) ?_
            refine E_aload_n dX11_tried_141 rfl ?_
            refine E_getR dX11_tried_142 f_X11_47 rfl (Nat.lt_of_lt_of_le (by decide) hN) rfl (hn2.1 _ _ _ rfl) ?_
            refine E_getR dX11_tried_145 f_X11_150 rfl (Nat.lt_of_lt_of_le (by decide) hN) rfl (hn2.1 _ _ _ rfl) ?_
            refine E_getI dX11_tried_148 f_X11_180 rfl (Nat.lt_of_lt_of_le (by decide) hN) rfl ?_
            refine E.top (d4.2.2 4 (by decide)) ?_
            refine E_zN_eq (a := o.1 4) (tgt := 158) dX11_tried_151 (by omega) (by decide) (fun cw151 => absurd cw151 (by omega)) (fun cw151 => ?_)
            refine E_ic (nI 1) dX11_tried_154 (by decide) ?_
            refine E_goto (tgt := 159) dX11_tried_155 (by decide) ?_
            exact E_iret dX11_tried_159 rfl (hQ I4 J R4 (XRn (u0_X hX) hn2 (fun a h1 h2 => f4 a (by omega) (by omega) (by omega) (by omega) (by omega) (by omega)) (f4 0 (by decide) (by decide) (by decide) (by decide) (by decide) (by decide)) (f4 2 (by decide) (by decide) (by decide) (by decide) (by decide) (by decide))) (fun a a1 a2 => (f4 a (by omega) (by omega) (by omega) (by omega) (by omega) (by omega)).trans (up2_o I 0 2 _ a (by omega))) (fun a a1 a2 => (f4 a (by omega) (by omega) (by omega) (by omega) (by omega) (by omega)).trans (up2_o I 0 2 _ a (by omega))))
      · have hno : ¬ gTr σ (nI k) w (nI 5) := fun y => z y.1.2
        rw [gd_f hno] at hQ
        rw [gd_f hno] at hQ
        have hq2 := hQ I J R hX (fun _ _ _ => rfl) (fun _ _ _ => rfl)
        refine E_zN_ne (a := 0) (tgt := 31) dX11_tried_26 (by decide) (by decide) (fun cw26 => absurd cw26 (by omega)) (fun cw26 => ?_)
        refine E_ic (-1) dX11_tried_29 (by decide) ?_
        exact E_iret dX11_tried_30 rfl (hq2)
    · have hno : ¬ gTr σ x w (nI 5) := fun y => z y.1.1
      rw [gd_f hno] at hQ
      rw [gd_f hno] at hQ
      have hq2 := hQ I J R hX (fun _ _ _ => rfl) (fun _ _ _ => rfl)
      refine E_zN_eq (a := 0) (tgt := 29) dX11_tried_15 (by decide) (by decide) (fun cw15 => ?_) (fun cw15 => absurd cw15 (by omega))
      refine E_ic (-1) dX11_tried_29 (by decide) ?_
      exact E_iret dX11_tried_30 rfl (hq2)
  · skip
    refine E_iload_n dX11_tried_0 rfl ?_
    refine E_zN_lt (a := 6) (tgt := 29) dX11_tried_1 (by decide) (by decide) (fun cw1 => cw1.elim) (fun cw1 => ?_)
    refine E_iload_n dX11_tried_4 rfl ?_
    refine E_bp (nI 7) dX11_tried_5 (by decide) ?_
    refine E_cN_gt (a := 6) (b := 7) (tgt := 29) dX11_tried_7 (by decide) (by decide) (by decide) (fun cw7 => absurd cw7 (by omega)) (fun cw7 => ?_)
    refine E_aload_n dX11_tried_10 rfl ?_
    refine E_iload_n dX11_tried_11 rfl ?_
    refine E_callV (As := [_]) (ci := 10) (kc' := 0) (ks' := 0) (kc := 0) (ks := 0) dX11_tried_12 ok_X11_isTold w_X11_138 i_X11_isTold s_X11_isTold rfl (by decide) rfl (Nat.lt_of_lt_of_le (by decide) hN) rfl rfl rfl (Nat.le_of_ble_eq_true rfl) (Nat.le_of_ble_eq_true rfl) (Nat.le_refl _) (X_isTold (d := 899) hB hX (fun k hk e h0 => ?_) (fun z => ?_))
    · subst e
      refine E_zN_eq (a := 1) (tgt := 29) dX11_tried_15 (by decide) (by decide) (fun cw15 => absurd cw15 (by omega)) (fun cw15 => ?_)
      refine E_aload_n dX11_tried_18 rfl ?_
      refine E_iload_n dX11_tried_19 rfl ?_
      refine E_ic (nI 1) dX11_tried_20 (by decide) ?_
      refine E_bp (nI 60) dX11_tried_21 (by decide) ?_
      refine E_callV (As := [_, _, _]) (ci := 10) (kc' := 0) (ks' := 0) (kc := 0) (ks := 0) dX11_tried_23 ok_X11_tapeHas w_X11_113 i_X11_tapeHas s_X11_tapeHas rfl (by decide) rfl (Nat.lt_of_lt_of_le (by decide) hN) rfl rfl rfl (Nat.le_of_ble_eq_true rfl) (Nat.le_of_ble_eq_true rfl) (Nat.le_refl _) (X_tapeHas (d := 899) (by decide) (by decide) hB hX (fun m h1 h2 h3 e => ?_) (fun z => ?_))
      · subst e
        have hg : gTr σ (nI k) (nI m) (nI 6) := ⟨⟨tk_of hk h0, tp_of h1 h2 h3⟩, rg_of (by decide)⟩
        rw [gd_t hg, gd_t hg, nI_clamp (n := m) (by omega), nI_clamp (n := k) (by omega), nI_clamp (n := 6) (by decide)] at hQ
        have hc := tp_okc hB h3
        refine E_zN_ne (a := 1) (tgt := 31) dX11_tried_26 (by decide) (by decide) (fun cw26 => ?_) (fun cw26 => absurd cw26 (by omega))
        refine E_aload_n dX11_tried_31 rfl ?_
        refine E_iload_n dX11_tried_32 rfl ?_
        refine E_iload_n dX11_tried_33 rfl ?_
        refine E_callV (As := [_, _]) (ci := 10) (kc' := 0) (ks' := 0) (kc := 0) (ks := 0) dX11_tried_34 ok_X11_rehearse w_X11_142 i_X11_rehearse s_X11_rehearse rfl (by decide) rfl (Nat.lt_of_lt_of_le (by decide) hN) rfl rfl rfl (Nat.le_of_ble_eq_true rfl) (Nat.le_of_ble_eq_true rfl) (Nat.le_refl _) (x_rehearse (d := 886) hN hB hX hq hl hk h3 ?_)
        cases hr : rdS 0 96 m (ccS (tpS σ) m) with
        | inl z =>
          have hQ : ∀ (I' : IM) (J' : JM) (R' : RM), XR (u0 σ) n I' R' → (∀ a, 3 ≤ a → a ≤ 8 → I' a = I a) → (∀ a, 114 ≤ a → a < 152 → I' a = I a) → Q (some (.int (z))) n I' J' R' := by rw [hr] at hQ; exact hQ
          intro I4 R4 hn2 f4
          refine E_istore dX11_tried_37 (Nat.le_of_ble_eq_true rfl) ?_
          refine E_iload dX11_tried_39 rfl ?_
          refine E_if_ge (tgt := 47) dX11_tried_41 (by decide) (fun cw41 => by first | exact absurd cw41 (fun y => absurd (rd_neg hc (by omega) hr) (Int32.not_lt.mpr y)) | exact absurd (fun y => absurd (rd_neg hc (by omega) hr) (Int32.not_lt.mpr y)) cw41) (fun cw41 => ?_)
          refine E_iload dX11_tried_44 rfl ?_
          exact E_iret dX11_tried_46 rfl (hQ I4 J R4 (XRn (u0_X hX) hn2 (fun a h1 h2 => f4 a (by omega) (by omega) (by omega) (by omega) (by omega) (by omega)) (f4 0 (by decide) (by decide) (by decide) (by decide) (by decide) (by decide)) (f4 2 (by decide) (by decide) (by decide) (by decide) (by decide) (by decide))) (fun a a1 a2 => (f4 a (by omega) (by omega) (by omega) (by omega) (by omega) (by omega)).trans (up2_o I 0 2 _ a (by omega))) (fun a a1 a2 => (f4 a (by omega) (by omega) (by omega) (by omega) (by omega) (by omega)).trans (up2_o I 0 2 _ a (by omega))))
        | inr r =>
          have hQ : ∀ (I' : IM) (J' : JM) (R' : RM), XR (u0 σ) n I' R' → (∀ a, 3 ≤ a → a ≤ 8 → I' a = I a) → (∀ a, 114 ≤ a → a < 152 → I' a = I a) → Q (some (.int (askR σ k 6 (rnQ q σ k r)))) n I' J' R' := by rw [hr] at hQ; exact hQ
          have ho := rnQ_ok (q := q) hB hk r
          have hcm := rnQ_c (q := q) (σ := σ) (k := k) r
          intro I4 R4 hn2 f4 hof d4 l4 b4
          revert hQ ho hcm d4 l4 b4
          generalize rnQ q σ k r = o
          intro hQ ho hcm d4 l4 b4
          have o4 := ho.1.2.2.2.2.1
          have n4 := (hB.1 k hk).1
          refine E_istore dX11_tried_37 (Nat.le_of_ble_eq_true rfl) ?_
          refine E_iload dX11_tried_39 rfl ?_
          refine E_zN_ge (a := 0) (tgt := 47) dX11_tried_41 (by decide) (by decide) (fun cw41 => ?_) (fun cw41 => cw41.elim)
          refine E_iload_n dX11_tried_47 rfl ?_
          refine E_tin (tgt := 160) dX11_tried_48 (by decide) (by decide) rfl (by decide) ?_
          refine E_aload_n dX11_tried_160 rfl ?_
          refine E_getR dX11_tried_161 f_X11_47 rfl (Nat.lt_of_lt_of_le (by decide) hN) rfl (hn2.1 _ _ _ rfl) ?_
          refine E_callV (As := []) (ci := 0) (kc' := 0) (ks' := 0) (kc := 0) (ks := 0) dX11_tried_164 ok_X0_lastYear w_X11_183 i_X0_lastYear s_X0_lastYear rfl (by decide) rfl (Nat.lt_of_lt_of_le (by decide) hN) rfl rfl rfl (Nat.le_of_ble_eq_true rfl) (Nat.le_of_ble_eq_true rfl) (Nat.le_refl _) (x_lastYear (LN := σ 0 k 0) (Y := σ 1 k) (D := o.1) hN hn2.1 hk n4 hof (fun i hi => (congrFun ((f4 (55 + 5 * k) (by omega) (by omega) (by omega) (by omega) (by omega) (by omega)).trans (up2_o I 0 2 _ (55 + 5 * k) (by omega))) i).trans ((hX.1 k hk).2.2.1 i hi).1) ho.1 hcm d4 ?_)
          exact E_iret dX11_tried_167 rfl (hQ I4 J R4 (XRn (u0_X hX) hn2 (fun a h1 h2 => f4 a (by omega) (by omega) (by omega) (by omega) (by omega) (by omega)) (f4 0 (by decide) (by decide) (by decide) (by decide) (by decide) (by decide)) (f4 2 (by decide) (by decide) (by decide) (by decide) (by decide) (by decide))) (fun a a1 a2 => (f4 a (by omega) (by omega) (by omega) (by omega) (by omega) (by omega)).trans (up2_o I 0 2 _ a (by omega))) (fun a a1 a2 => (f4 a (by omega) (by omega) (by omega) (by omega) (by omega) (by omega)).trans (up2_o I 0 2 _ a (by omega))))
      · have hno : ¬ gTr σ (nI k) w (nI 6) := fun y => z y.1.2
        rw [gd_f hno] at hQ
        rw [gd_f hno] at hQ
        have hq2 := hQ I J R hX (fun _ _ _ => rfl) (fun _ _ _ => rfl)
        refine E_zN_ne (a := 0) (tgt := 31) dX11_tried_26 (by decide) (by decide) (fun cw26 => absurd cw26 (by omega)) (fun cw26 => ?_)
        refine E_ic (-1) dX11_tried_29 (by decide) ?_
        exact E_iret dX11_tried_30 rfl (hq2)
    · have hno : ¬ gTr σ x w (nI 6) := fun y => z y.1.1
      rw [gd_f hno] at hQ
      rw [gd_f hno] at hQ
      have hq2 := hQ I J R hX (fun _ _ _ => rfl) (fun _ _ _ => rfl)
      refine E_zN_eq (a := 0) (tgt := 29) dX11_tried_15 (by decide) (by decide) (fun cw15 => ?_) (fun cw15 => absurd cw15 (by omega))
      refine E_ic (-1) dX11_tried_29 (by decide) ?_
      exact E_iret dX11_tried_30 rfl (hq2)
  · skip
    refine E_iload_n dX11_tried_0 rfl ?_
    refine E_zN_lt (a := 7) (tgt := 29) dX11_tried_1 (by decide) (by decide) (fun cw1 => cw1.elim) (fun cw1 => ?_)
    refine E_iload_n dX11_tried_4 rfl ?_
    refine E_bp (nI 7) dX11_tried_5 (by decide) ?_
    refine E_cN_gt (a := 7) (b := 7) (tgt := 29) dX11_tried_7 (by decide) (by decide) (by decide) (fun cw7 => absurd cw7 (by omega)) (fun cw7 => ?_)
    refine E_aload_n dX11_tried_10 rfl ?_
    refine E_iload_n dX11_tried_11 rfl ?_
    refine E_callV (As := [_]) (ci := 10) (kc' := 0) (ks' := 0) (kc := 0) (ks := 0) dX11_tried_12 ok_X11_isTold w_X11_138 i_X11_isTold s_X11_isTold rfl (by decide) rfl (Nat.lt_of_lt_of_le (by decide) hN) rfl rfl rfl (Nat.le_of_ble_eq_true rfl) (Nat.le_of_ble_eq_true rfl) (Nat.le_refl _) (X_isTold (d := 899) hB hX (fun k hk e h0 => ?_) (fun z => ?_))
    · subst e
      refine E_zN_eq (a := 1) (tgt := 29) dX11_tried_15 (by decide) (by decide) (fun cw15 => absurd cw15 (by omega)) (fun cw15 => ?_)
      refine E_aload_n dX11_tried_18 rfl ?_
      refine E_iload_n dX11_tried_19 rfl ?_
      refine E_ic (nI 1) dX11_tried_20 (by decide) ?_
      refine E_bp (nI 60) dX11_tried_21 (by decide) ?_
      refine E_callV (As := [_, _, _]) (ci := 10) (kc' := 0) (ks' := 0) (kc := 0) (ks := 0) dX11_tried_23 ok_X11_tapeHas w_X11_113 i_X11_tapeHas s_X11_tapeHas rfl (by decide) rfl (Nat.lt_of_lt_of_le (by decide) hN) rfl rfl rfl (Nat.le_of_ble_eq_true rfl) (Nat.le_of_ble_eq_true rfl) (Nat.le_refl _) (X_tapeHas (d := 899) (by decide) (by decide) hB hX (fun m h1 h2 h3 e => ?_) (fun z => ?_))
      · subst e
        have hg : gTr σ (nI k) (nI m) (nI 7) := ⟨⟨tk_of hk h0, tp_of h1 h2 h3⟩, rg_of (by decide)⟩
        rw [gd_t hg, gd_t hg, nI_clamp (n := m) (by omega), nI_clamp (n := k) (by omega), nI_clamp (n := 7) (by decide)] at hQ
        have hc := tp_okc hB h3
        refine E_zN_ne (a := 1) (tgt := 31) dX11_tried_26 (by decide) (by decide) (fun cw26 => ?_) (fun cw26 => absurd cw26 (by omega))
        refine E_aload_n dX11_tried_31 rfl ?_
        refine E_iload_n dX11_tried_32 rfl ?_
        refine E_iload_n dX11_tried_33 rfl ?_
        refine E_callV (As := [_, _]) (ci := 10) (kc' := 0) (ks' := 0) (kc := 0) (ks := 0) dX11_tried_34 ok_X11_rehearse w_X11_142 i_X11_rehearse s_X11_rehearse rfl (by decide) rfl (Nat.lt_of_lt_of_le (by decide) hN) rfl rfl rfl (Nat.le_of_ble_eq_true rfl) (Nat.le_of_ble_eq_true rfl) (Nat.le_refl _) (x_rehearse (d := 886) hN hB hX hq hl hk h3 ?_)
        cases hr : rdS 0 96 m (ccS (tpS σ) m) with
        | inl z =>
          have hQ : ∀ (I' : IM) (J' : JM) (R' : RM), XR (u0 σ) n I' R' → (∀ a, 3 ≤ a → a ≤ 8 → I' a = I a) → (∀ a, 114 ≤ a → a < 152 → I' a = I a) → Q (some (.int (z))) n I' J' R' := by rw [hr] at hQ; exact hQ
          intro I4 R4 hn2 f4
          refine E_istore dX11_tried_37 (Nat.le_of_ble_eq_true rfl) ?_
          refine E_iload dX11_tried_39 rfl ?_
          refine E_if_ge (tgt := 47) dX11_tried_41 (by decide) (fun cw41 => by first | exact absurd cw41 (fun y => absurd (rd_neg hc (by omega) hr) (Int32.not_lt.mpr y)) | exact absurd (fun y => absurd (rd_neg hc (by omega) hr) (Int32.not_lt.mpr y)) cw41) (fun cw41 => ?_)
          refine E_iload dX11_tried_44 rfl ?_
          exact E_iret dX11_tried_46 rfl (hQ I4 J R4 (XRn (u0_X hX) hn2 (fun a h1 h2 => f4 a (by omega) (by omega) (by omega) (by omega) (by omega) (by omega)) (f4 0 (by decide) (by decide) (by decide) (by decide) (by decide) (by decide)) (f4 2 (by decide) (by decide) (by decide) (by decide) (by decide) (by decide))) (fun a a1 a2 => (f4 a (by omega) (by omega) (by omega) (by omega) (by omega) (by omega)).trans (up2_o I 0 2 _ a (by omega))) (fun a a1 a2 => (f4 a (by omega) (by omega) (by omega) (by omega) (by omega) (by omega)).trans (up2_o I 0 2 _ a (by omega))))
        | inr r =>
          have hQ : ∀ (I' : IM) (J' : JM) (R' : RM), XR (u0 σ) n I' R' → (∀ a, 3 ≤ a → a ≤ 8 → I' a = I a) → (∀ a, 114 ≤ a → a < 152 → I' a = I a) → Q (some (.int (askR σ k 7 (rnQ q σ k r)))) n I' J' R' := by rw [hr] at hQ; exact hQ
          have ho := rnQ_ok (q := q) hB hk r
          have hcm := rnQ_c (q := q) (σ := σ) (k := k) r
          intro I4 R4 hn2 f4 hof d4 l4 b4
          revert hQ ho hcm d4 l4 b4
          generalize rnQ q σ k r = o
          intro hQ ho hcm d4 l4 b4
          have o4 := ho.1.2.2.2.2.1
          have n4 := (hB.1 k hk).1
          refine E_istore dX11_tried_37 (Nat.le_of_ble_eq_true rfl) ?_
          refine E_iload dX11_tried_39 rfl ?_
          refine E_zN_ge (a := 0) (tgt := 47) dX11_tried_41 (by decide) (by decide) (fun cw41 => ?_) (fun cw41 => cw41.elim)
          refine E_iload_n dX11_tried_47 rfl ?_
          refine E_tout (tgt := 168) dX11_tried_48 (Or.inr (by decide)) (by decide) ?_
          refine E_aload_n dX11_tried_168 rfl ?_
          refine E_getR dX11_tried_169 f_X11_47 rfl (Nat.lt_of_lt_of_le (by decide) hN) rfl (hn2.1 _ _ _ rfl) ?_
          refine E_getI dX11_tried_172 f_X11_158 rfl (Nat.lt_of_lt_of_le (by decide) hN) rfl ?_
          refine E.top (d4.1) ?_
          exact E_iret dX11_tried_175 rfl (hQ I4 J R4 (XRn (u0_X hX) hn2 (fun a h1 h2 => f4 a (by omega) (by omega) (by omega) (by omega) (by omega) (by omega)) (f4 0 (by decide) (by decide) (by decide) (by decide) (by decide) (by decide)) (f4 2 (by decide) (by decide) (by decide) (by decide) (by decide) (by decide))) (fun a a1 a2 => (f4 a (by omega) (by omega) (by omega) (by omega) (by omega) (by omega)).trans (up2_o I 0 2 _ a (by omega))) (fun a a1 a2 => (f4 a (by omega) (by omega) (by omega) (by omega) (by omega) (by omega)).trans (up2_o I 0 2 _ a (by omega))))
      · have hno : ¬ gTr σ (nI k) w (nI 7) := fun y => z y.1.2
        rw [gd_f hno] at hQ
        rw [gd_f hno] at hQ
        have hq2 := hQ I J R hX (fun _ _ _ => rfl) (fun _ _ _ => rfl)
        refine E_zN_ne (a := 0) (tgt := 31) dX11_tried_26 (by decide) (by decide) (fun cw26 => absurd cw26 (by omega)) (fun cw26 => ?_)
        refine E_ic (-1) dX11_tried_29 (by decide) ?_
        exact E_iret dX11_tried_30 rfl (hq2)
    · have hno : ¬ gTr σ x w (nI 7) := fun y => z y.1.1
      rw [gd_f hno] at hQ
      rw [gd_f hno] at hQ
      have hq2 := hQ I J R hX (fun _ _ _ => rfl) (fun _ _ _ => rfl)
      refine E_zN_eq (a := 0) (tgt := 29) dX11_tried_15 (by decide) (by decide) (fun cw15 => ?_) (fun cw15 => absurd cw15 (by omega))
      refine E_ic (-1) dX11_tried_29 (by decide) ?_
      exact E_iret dX11_tried_30 rfl (hq2)
end PDraw2
