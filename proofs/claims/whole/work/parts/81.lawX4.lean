/-! ===== the law's rules, as the class reads them ===== -/
def FRx (I I' : IM) : Prop := (∀ x, (x < 11 ∨ 17 < x) → I' x = I x) ∧ I' 11 2 = I 11 2
theorem FRx.refl (I : IM) : FRx I I := ⟨fun _ _ => rfl, rfl⟩
theorem FRx.trans {I I' I2 : IM} (h : FRx I I') (h2 : FRx I' I2) : FRx I I2 := ⟨fun x a => (h2.1 x a).trans (h.1 x a), h2.2.trans h.2⟩
theorem FRx.of {I I' : IM} (h : FLx I I') : FRx I I' := ⟨fun x a => h.1 x (by omega) (by omega), h.2⟩
theorem FRx.row (I : IM) {a : Nat} (k : Nat) (v : Int32) (h : 12 ≤ a ∧ a ≤ 17) : FRx I (up2 I a k v) := ⟨fun x b => up2_o I a k v x (by omega), congrFun (up2_o I a k v 11 (by omega)) 2⟩
theorem CLx.keepR {t : Nat → Nat} {L : Nat} {I I' : IM} {R : RM} (h : CLx t L I R) (h2 : FRx I I') : CLx t L I' R := ⟨h2.2.trans h.1, fun j hj => (congrFun (h2.1 2 (by decide)) j).trans (h.2.1 j hj), h.2.2⟩
theorem PLx.row {q : TS} {I : IM} (h : PLx q I) {a : Nat} (k : Nat) (v : Int32) (ha : a = 12 ∨ (14 ≤ a ∧ a ≤ 17)) : PLx q (up2 I a k v) := ⟨(congrFun (up2_o I a k v 11 (by omega)) 3).trans h.1, (congrFun (up2_o I a k v 11 (by omega)) 4).trans h.2.1, fun i hi => (congrFun (up2_o I a k v 13 (by omega)) i).trans (h.2.2 i hi)⟩
def LDx (w : LWD) (I : IM) : Prop := I 12 7 = nI w.1 ∧ ∀ r, r < w.1 → I 14 r = nI (w.2.1 r) ∧ I 15 r = nI (w.2.2.1 r) ∧ I 16 r = nI (w.2.2.2.1 r) ∧ I 17 r = nI (w.2.2.2.2.1 r)
theorem LDx.keep {w : LWD} {I I' : IM} (h : LDx w I) (f : FLx I I') : LDx w I' := by
  unfold LDx
  rw [f.1 12 (by decide) (by decide), f.1 14 (by decide) (by decide), f.1 15 (by decide) (by decide), f.1 16 (by decide) (by decide), f.1 17 (by decide) (by decide)]
  exact h
section PLawX4
variable {g : GL} {d n : Nat} {I : IM} {J : JM} {R : RM} {Q : PQ} {t c : Nat → Nat} {L p : Nat} {q a : TS} {w : LWD}
set_option maxRecDepth 100000 in
set_option maxHeartbeats 2000000 in
theorem x_ruleC {ch : Nat} (hd : 19 ≤ d) (hN : 152 ≤ n) (hR : RS R) (hc : okc t L c) (hL : L ≤ 240) (hC : CLx t L I R) (hP : PLx a I) (hq : a.1 ≤ L) (hs : a.2.1 ≤ a.1) (hcd : CDok a.2.2 a.2.1) (hw : w.1 < 16) (hD : LDx w I) (h14 : I 14 w.1 = nI ch) (h15 : I 15 w.1 = nI (wS w)) (hQ0 : ∀ x, rcL c a = .inl x → ∀ I' : IM, FRx I I' → I' 11 5 = x → Q (some (.int 0)) n I' J R) (hQ1 : ∀ r, rcL c a = .inr r → ∀ I' : IM, FRx I I' → PLx r I' → LDx (adL w ch a.2.1 r) I' → Q (some (.int 1)) n I' J R) : E g mX4_rule d 0 0 93 [.ref 11, .int (nI ch), .int (nI (w.1))] [] n I J R Q := by
  refine E_aload_n dX4_rule_93 rfl ?_
  refine E_getR dX4_rule_94 f_X4_12 rfl (Nat.lt_of_lt_of_le (by decide) hN) rfl (hR _ _ _ rfl) ?_
  refine E_getR dX4_rule_97 f_X4_77 rfl (Nat.lt_of_lt_of_le (by decide) hN) rfl (hR _ _ _ rfl) ?_
  refine E_iload_n dX4_rule_100 rfl ?_
  refine E_aload_n dX4_rule_101 rfl ?_
  refine E_getI dX4_rule_102 f_X4_32 rfl (Nat.lt_of_lt_of_le (by decide) hN) rfl ?_
  refine E.top (hP.2.1) ?_
  refine E_iastN dX4_rule_105 rfl (Nat.lt_of_lt_of_le (by decide) hN) (by omega) ?_
  refine E_aload_n dX4_rule_106 rfl ?_
  refine E_bp (nI 40) dX4_rule_107 (by decide) ?_
  refine E_callV (As := [_]) (ci := 4) (kc' := 0) (ks' := 0) (kc := 0) (ks := 0) dX4_rule_109 ok_X4_passes w_X4_55 i_X4_passes s_X4_passes rfl (by decide) rfl (Nat.lt_of_lt_of_le (by decide) hN) rfl rfl rfl (Nat.le_of_ble_eq_true rfl) (Nat.le_of_ble_eq_true rfl) (by omega) (x_passesL (d := 0) (q := a) (z := 40) hN hR hc hL (hC.keepR (FRx.row I w.1 (nI a.2.1) (by decide))) (by decide) hq (hP.row _ _ (by decide)) ?_)
  cases hp40 : psL c 40 a with
  | inl x =>
    intro I5 f5 e5
    refine E_zN_eq (a := 0) (tgt := 132) dX4_rule_112 (by decide) (by decide) (fun cw112 => ?_) (fun cw112 => absurd cw112 (by omega))
    refine E_ic (nI 0) dX4_rule_132 (by decide) ?_
    exact E_zret dX4_rule_133 rfl (by decide) ((hQ0 x (bnd_l hp40)) I5 ((FRx.row I w.1 (nI a.2.1) (by decide)).trans (FRx.of f5)) e5)
  | inr b5 =>
    intro I5 f5 p5
    obtain ⟨c40, rfl⟩ := ps_i hp40
    have hpa := hc.lt (p := a.1) (by omega)
    refine E_zN_eq (a := 1) (tgt := 132) dX4_rule_112 (by decide) (by decide) (fun cw112 => absurd cw112 (by omega)) (fun cw112 => ?_)
    refine E_aload_n dX4_rule_115 rfl ?_
    refine E_ic (nI 1) dX4_rule_116 (by decide) ?_
    refine E_callV (As := [_]) (ci := 4) (kc' := 0) (ks' := 0) (kc := 0) (ks := 0) dX4_rule_117 ok_X4_choice w_X4_80 i_X4_choice s_X4_choice rfl (by decide) rfl (Nat.lt_of_lt_of_le (by decide) hN) rfl rfl rfl (Nat.le_of_ble_eq_true rfl) (Nat.le_of_ble_eq_true rfl) (by omega) (x_choice hc hL 5 (by decide) g (d - 1) n _ J R _ (a.1 + 1, a.2) (by omega) hN hR ((hC.keepR (FRx.row I w.1 (nI a.2.1) (by decide))).keep f5) p5 hpa (Nat.le_succ_of_le hs) hcd ?_)
    cases hch : chL c 5 (a.1 + 1, a.2) with
    | inl x =>
      intro I6 f6 e6
      refine E_zN_eq (a := 0) (tgt := 132) dX4_rule_120 (by decide) (by decide) (fun cw120 => ?_) (fun cw120 => absurd cw120 (by omega))
      refine E_ic (nI 0) dX4_rule_132 (by decide) ?_
      exact E_zret dX4_rule_133 rfl (by decide) ((hQ0 x ((bnd_r hp40).trans (bnd_l hch))) I6 (((FRx.row I w.1 (nI a.2.1) (by decide)).trans (FRx.of f5)).trans (FRx.of f6)) e6)
    | inr v =>
      intro I6 f6 p6
      have gv := (cho_ok hc hL (tk_ok hc hL 5 (by decide)) (a.1 + 1, a.2) v hpa (Nat.le_succ_of_le hs) hch).1.2.1
      refine E_zN_eq (a := 1) (tgt := 132) dX4_rule_120 (by decide) (by decide) (fun cw120 => absurd cw120 (by omega)) (fun cw120 => ?_)
      refine E_aload_n dX4_rule_123 rfl ?_
      refine E_bp (nI 41) dX4_rule_124 (by decide) ?_
      refine E_callV (As := [_]) (ci := 4) (kc' := 0) (ks' := 0) (kc := 0) (ks := 0) dX4_rule_126 ok_X4_passes w_X4_55 i_X4_passes s_X4_passes rfl (by decide) rfl (Nat.lt_of_lt_of_le (by decide) hN) rfl rfl rfl (Nat.le_of_ble_eq_true rfl) (Nat.le_of_ble_eq_true rfl) (by omega) (x_passesL (d := 0) (q := v) (z := 41) hN hR hc hL (((hC.keepR (FRx.row I w.1 (nI a.2.1) (by decide))).keep f5).keep f6) (by decide) gv p6 ?_)
      cases hp41 : psL c 41 v with
      | inl x =>
        intro I7 f7 e7
        refine E_zN_ne (a := 0) (tgt := 134) dX4_rule_129 (by decide) (by decide) (fun cw129 => absurd cw129 (by omega)) (fun cw129 => ?_)
        refine E_ic (nI 0) dX4_rule_132 (by decide) ?_
        exact E_zret dX4_rule_133 rfl (by decide) ((hQ0 x ((bnd_r hp40).trans ((bnd_r hch).trans hp41))) I7 ((((FRx.row I w.1 (nI a.2.1) (by decide)).trans (FRx.of f5)).trans (FRx.of f6)).trans (FRx.of f7)) e7)
      | inr r =>
        intro I7 f7 p7
        refine E_zN_ne (a := 1) (tgt := 134) dX4_rule_129 (by decide) (by decide) (fun cw129 => ?_) (fun cw129 => absurd cw129 (by omega))
        refine E_aload_n dX4_rule_134 rfl ?_
        refine E_getR dX4_rule_135 f_X4_12 rfl (Nat.lt_of_lt_of_le (by decide) hN) rfl (hR _ _ _ rfl) ?_
        refine E_getR dX4_rule_138 f_X4_83 rfl (Nat.lt_of_lt_of_le (by decide) hN) rfl (hR _ _ _ rfl) ?_
        refine E_iload_n dX4_rule_141 rfl ?_
        refine E_aload_n dX4_rule_142 rfl ?_
        refine E_getI dX4_rule_143 f_X4_32 rfl (Nat.lt_of_lt_of_le (by decide) hN) rfl ?_
        refine E.top (p7.2.1) ?_
        refine E_iastN dX4_rule_146 rfl (Nat.lt_of_lt_of_le (by decide) hN) (by omega) ?_
        refine E_aload_n dX4_rule_147 rfl ?_
        refine E_getR dX4_rule_148 f_X4_12 rfl (Nat.lt_of_lt_of_le (by decide) hN) rfl (hR _ _ _ rfl) ?_
        refine E_dup dX4_rule_151 rfl ?_
        refine E_getI dX4_rule_152 f_X4_44 rfl (Nat.lt_of_lt_of_le (by decide) hN) rfl ?_
        refine E.top ((congrFun (up2_o _ 17 _ _ 12 (by decide)) 7).trans ((congrFun ((f7.1 12 (by decide) (by decide)).trans ((f6.1 12 (by decide) (by decide)).trans ((f5.1 12 (by decide) (by decide)).trans (up2_o I 16 _ _ 12 (by decide))))) 7).trans hD.1)) ?_
        refine E_ic (nI 1) dX4_rule_155 (by decide) ?_
        refine E_iadd dX4_rule_156 ?_
        refine E.top (nI_add (w.1) 1) ?_
        refine E_putI dX4_rule_157 f_X4_44 rfl (Nat.lt_of_lt_of_le (by decide) hN) rfl ?_
        refine E_ic (nI 1) dX4_rule_160 (by decide) ?_
        exact E_zret dX4_rule_161 rfl (by decide) ((hQ1 r ((bnd_r hp40).trans ((bnd_r hch).trans hp41))) _ (((((FRx.row I w.1 (nI a.2.1) (by decide)).trans (FRx.of f5)).trans (FRx.of f6)).trans (FRx.of f7)).trans ((FRx.row I7 w.1 (nI r.2.1) (by decide)).trans (FRx.row _ 7 (nI (w.1 + 1)) (by decide)))) ((p7.row _ _ (by decide)).row _ _ (by decide)) ⟨up2_s _ _ _ _, fun k hk => by
          have g7 : ∀ x, x ≠ 11 → x ≠ 13 → I7 x = (up2 I 16 w.1 (nI a.2.1)) x := fun x h1 h2 => (f7.1 x h1 h2).trans ((f6.1 x h1 h2).trans (f5.1 x h1 h2))
          have hk : k < w.1 + 1 := hk
          rw [up2_o _ 12 _ _ 14 (by decide), up2_o _ 12 _ _ 15 (by decide), up2_o _ 12 _ _ 16 (by decide), up2_o _ 12 _ _ 17 (by decide), up2_o _ 17 _ _ 14 (by decide), up2_o _ 17 _ _ 15 (by decide), up2_o _ 17 _ _ 16 (by decide), g7 14 (by decide) (by decide), g7 15 (by decide) (by decide), g7 16 (by decide) (by decide), up2_o _ 16 _ _ 14 (by decide), up2_o _ 16 _ _ 15 (by decide)]
          show I 14 k = nI (up1 w.2.1 w.1 ch k) ∧ I 15 k = nI (up1 w.2.2.1 w.1 (wS w) k) ∧ up2 I 16 w.1 (nI a.2.1) 16 k = nI (up1 w.2.2.2.1 w.1 a.2.1 k) ∧ up2 I7 17 w.1 (nI r.2.1) 17 k = nI (up1 w.2.2.2.2.1 w.1 r.2.1 k)
          by_cases e : k = w.1
          · subst e
            rw [up1_s, up1_s, up1_s, up1_s, up2_s, up2_s]
            exact ⟨h14, h15, rfl, rfl⟩
          · rw [up1_n e, up1_n e, up1_n e, up1_n e, up2_k _ _ e, up2_k _ _ e, g7 17 (by decide) (by decide), up2_o _ 16 _ _ 17 (by decide)]
            exact hD.2 k (by omega)⟩)
def ROL (I : IM) (J : JM) (R : RM) (n : Nat) (Q : PQ) : Int32 ⊕ (Nat × LWD) → Prop
  | .inl x => ∀ I' : IM, FRx I I' → I' 11 5 = x → Q (some (.int 0)) n I' J R
  | .inr r => ∀ I' : IM, FRx I I' → PLx (r.1, wS r.2, wC r.2) I' → LDx r.2 I' → Q (some (.int 1)) n I' J R
theorem ROL.l {I : IM} {J : JM} {R : RM} {n : Nat} {Q : PQ} {y : Int32 ⊕ (Nat × LWD)} {x : Int32} (h : ROL I J R n Q y) (e : y = .inl x) : ∀ I' : IM, FRx I I' → I' 11 5 = x → Q (some (.int 0)) n I' J R := by rw [e] at h; exact h
theorem ROL.r {I : IM} {J : JM} {R : RM} {n : Nat} {Q : PQ} {y : Int32 ⊕ (Nat × LWD)} {r : Nat × LWD} (h : ROL I J R n Q y) (e : y = .inr r) : ∀ I' : IM, FRx I I' → PLx (r.1, wS r.2, wC r.2) I' → LDx r.2 I' → Q (some (.int 1)) n I' J R := by rw [e] at h; exact h
theorem ru_l {p : Nat} {w : LWD} {x : Int32} (c1 : ¬ rlP (c p) = 5) (c2 : ¬ w.1 = 16) (h : reL c (p, wS w, wC w) = .inl x) : ruL c p w = .inl x := by
  unfold ruL
  rw [if_neg c1, if_neg c2, h]
theorem ru_cl {p : Nat} {w : LWD} {a : TS} {x : Int32} (c1 : ¬ rlP (c p) = 5) (c2 : ¬ w.1 = 16) (h : reL c (p, wS w, wC w) = .inr a) (h2 : rcL c a = .inl x) : ruL c p w = .inl x := by
  unfold ruL
  rw [if_neg c1, if_neg c2, h]
  show (match rcL c a with | .inl x => (.inl x : Int32 ⊕ (Nat × LWD)) | .inr r => .inr (r.1, adL w (c p) a.2.1 r)) = .inl x
  rw [h2]
theorem ru_cr {p : Nat} {w : LWD} {a r : TS} (c1 : ¬ rlP (c p) = 5) (c2 : ¬ w.1 = 16) (h : reL c (p, wS w, wC w) = .inr a) (h2 : rcL c a = .inr r) : ruL c p w = .inr (r.1, adL w (c p) a.2.1 r) := by
  unfold ruL
  rw [if_neg c1, if_neg c2, h]
  show (match rcL c a with | .inl x => (.inl x : Int32 ⊕ (Nat × LWD)) | .inr r => .inr (r.1, adL w (c p) a.2.1 r)) = .inr (r.1, adL w (c p) a.2.1 r)
  rw [h2]
set_option maxRecDepth 100000 in
set_option maxHeartbeats 2000000 in
theorem x_rule (hd : 19 ≤ d) (hN : 152 ≤ n) (hR : RS R) (hc : okc t L c) (hL : L ≤ 240) (hC : CLx t L I R) (hp0 : p ≤ L) (hw : LWG w p) (hP : PLx (p, wS w, wC w) I) (hD : LDx w I) (hQ : ROL I J R n Q (ruL c p w)) : E g mX4_rule d 0 0 0 (ent 3 [.ref 11]) [] n I J R Q := by
  have w16 : w.1 ≤ 16 := hw.1
  have plr : ∀ x, x < 256 → plc [103, 102, 97, 100, 120] 0 (nI x) = if rlP x = 5 then -1 else nI (rlP x) := fun x hx => by
    have := pl_rl x
    rw [show chI x = nI x from if_pos hx] at this
    exact this
  have r5 := rl_le (c p)
  by_cases c1 : rlP (c p) = 5
  · skip
    refine E_aload_n dX4_rule_0 rfl ?_
    refine E_callV (As := []) (ci := 4) (kc' := 0) (ks' := 0) (kc := 0) (ks := 0) dX4_rule_1 ok_X4_next w_X4_51 i_X4_next s_X4_next rfl (by decide) rfl (Nat.lt_of_lt_of_le (by decide) hN) rfl rfl rfl (Nat.le_of_ble_eq_true rfl) (Nat.le_of_ble_eq_true rfl) (by omega) (x_nextL (d := 0) hN hR hc hL hC (p := p) (by omega) (hP.1) ?_)
    refine E_istore_n dX4_rule_4 (Nat.le_of_ble_eq_true rfl) ?_
    refine E_ldcS (i := 1) dX4_rule_5 rfl ?_
    refine E_iload_n dX4_rule_7 rfl ?_
    refine E_callSN (As := [_, _]) (kc' := 0) (ks' := 0) (kc := 0) (ks := 0) dX4_rule_8 ok_X11_placeIn w_X4_64 st_X11_placeIn rfl rfl rfl (Nat.le_of_ble_eq_true rfl) (Nat.le_of_ble_eq_true rfl) (by omega) (c_placeIn (d := 0) (i := 1) rfl ?_)
    refine E.top ((pl_rl (c p)).trans (if_pos c1)) ?_
    refine E_if_ge (tgt := 20) dX4_rule_11 (by decide) (fun cw11 => by first | exact absurd cw11 ((by decide)) | exact absurd ((by decide)) cw11) (fun cw11 => ?_)
    refine E_aload_n dX4_rule_14 rfl ?_
    refine E_ic (nI 1) dX4_rule_15 (by decide) ?_
    refine E_callV (As := [_]) (ci := 4) (kc' := 0) (ks' := 0) (kc := 0) (ks := 0) dX4_rule_16 ok_X4_fails w_X4_59 i_X4_fails s_X4_fails rfl (by decide) rfl (Nat.lt_of_lt_of_le (by decide) hN) rfl rfl rfl (Nat.le_of_ble_eq_true rfl) (Nat.le_of_ble_eq_true rfl) (by omega) (x_failsL (d := 0) (k := 1) (p := p) hN (hP.1) ?_)
    exact E_zret dX4_rule_19 rfl (by decide) ((hQ.l (if_pos c1)) _ (FRx.of (FLx.up I _ (by decide))) (up2_s _ _ _ _))
  · have hp := hc.lt (rl_lt c1)
    have l256 := rl_lt c1
    by_cases c2 : w.1 = 16
    · skip
      refine E_aload_n dX4_rule_0 rfl ?_
      refine E_callV (As := []) (ci := 4) (kc' := 0) (ks' := 0) (kc := 0) (ks := 0) dX4_rule_1 ok_X4_next w_X4_51 i_X4_next s_X4_next rfl (by decide) rfl (Nat.lt_of_lt_of_le (by decide) hN) rfl rfl rfl (Nat.le_of_ble_eq_true rfl) (Nat.le_of_ble_eq_true rfl) (by omega) (x_nextL (d := 0) hN hR hc hL hC (p := p) (by omega) hP.1 ?_)
      refine E.top (show chI (c p) = nI (c p) from if_pos (rl_lt c1)) ?_
      refine E_istore_n dX4_rule_4 (Nat.le_of_ble_eq_true rfl) ?_
      refine E_ldcS (i := 1) dX4_rule_5 rfl ?_
      refine E_iload_n dX4_rule_7 rfl ?_
      refine E_callSN (As := [_, _]) (kc' := 0) (ks' := 0) (kc := 0) (ks := 0) dX4_rule_8 ok_X11_placeIn w_X4_64 st_X11_placeIn rfl rfl rfl (Nat.le_of_ble_eq_true rfl) (Nat.le_of_ble_eq_true rfl) (by omega) (c_placeIn (d := 0) (i := 1) rfl ?_)
      refine E.top ((plr (c p) (rl_lt c1)).trans (if_neg c1)) ?_
      refine E_zN_ge (a := rlP (c p)) (tgt := 20) dX4_rule_11 (by omega) (by decide) (fun cw11 => ?_) (fun cw11 => cw11.elim)
      refine E_aload_n dX4_rule_20 rfl ?_
      refine E_getR dX4_rule_21 f_X4_12 rfl (Nat.lt_of_lt_of_le (by decide) hN) rfl (hR _ _ _ rfl) ?_
      refine E_getI dX4_rule_24 f_X4_44 rfl (Nat.lt_of_lt_of_le (by decide) hN) rfl ?_
      refine E.top (hD.1) ?_
      refine E_istore_n dX4_rule_27 (Nat.le_of_ble_eq_true rfl) ?_
      refine E_iload_n dX4_rule_28 rfl ?_
      refine E_zN_lt (a := w.1) (tgt := 38) dX4_rule_29 (by omega) (by decide) (fun cw29 => cw29.elim) (fun cw29 => ?_)
      refine E_iload_n dX4_rule_32 rfl ?_
      refine E_bp (nI 16) dX4_rule_33 (by decide) ?_
      refine E_cN_lt (a := w.1) (b := 16) (tgt := 44) dX4_rule_35 (by omega) (by decide) (by decide) (fun cw35 => absurd cw35 (by omega)) (fun cw35 => ?_)
      refine E_aload_n dX4_rule_38 rfl ?_
      refine E_ic (nI 4) dX4_rule_39 (by decide) ?_
      refine E_callV (As := [_]) (ci := 4) (kc' := 0) (ks' := 0) (kc := 0) (ks := 0) dX4_rule_40 ok_X4_fails w_X4_59 i_X4_fails s_X4_fails rfl (by decide) rfl (Nat.lt_of_lt_of_le (by decide) hN) rfl rfl rfl (Nat.le_of_ble_eq_true rfl) (Nat.le_of_ble_eq_true rfl) (by omega) (x_failsL (d := 0) (k := 4) (p := p) hN (hP.1) ?_)
      exact E_zret dX4_rule_43 rfl (by decide) ((hQ.l ((if_neg c1).trans (if_pos c2))) _ (FRx.of (FLx.up I _ (by decide))) (up2_s _ _ _ _))
    · by_cases c3 : c p = 120
      · skip
        refine E_aload_n dX4_rule_0 rfl ?_
        refine E_callV (As := []) (ci := 4) (kc' := 0) (ks' := 0) (kc := 0) (ks := 0) dX4_rule_1 ok_X4_next w_X4_51 i_X4_next s_X4_next rfl (by decide) rfl (Nat.lt_of_lt_of_le (by decide) hN) rfl rfl rfl (Nat.le_of_ble_eq_true rfl) (Nat.le_of_ble_eq_true rfl) (by omega) (x_nextL (d := 0) hN hR hc hL hC (p := p) (by omega) hP.1 ?_)
        refine E.top (show chI (c p) = nI (c p) from if_pos (rl_lt c1)) ?_
        refine E_istore_n dX4_rule_4 (Nat.le_of_ble_eq_true rfl) ?_
        refine E_ldcS (i := 1) dX4_rule_5 rfl ?_
        refine E_iload_n dX4_rule_7 rfl ?_
        refine E_callSN (As := [_, _]) (kc' := 0) (ks' := 0) (kc := 0) (ks := 0) dX4_rule_8 ok_X11_placeIn w_X4_64 st_X11_placeIn rfl rfl rfl (Nat.le_of_ble_eq_true rfl) (Nat.le_of_ble_eq_true rfl) (by omega) (c_placeIn (d := 0) (i := 1) rfl ?_)
        refine E.top ((plr (c p) (rl_lt c1)).trans (if_neg c1)) ?_
        refine E_zN_ge (a := rlP (c p)) (tgt := 20) dX4_rule_11 (by omega) (by decide) (fun cw11 => ?_) (fun cw11 => cw11.elim)
        refine E_aload_n dX4_rule_20 rfl ?_
        refine E_getR dX4_rule_21 f_X4_12 rfl (Nat.lt_of_lt_of_le (by decide) hN) rfl (hR _ _ _ rfl) ?_
        refine E_getI dX4_rule_24 f_X4_44 rfl (Nat.lt_of_lt_of_le (by decide) hN) rfl ?_
        refine E.top (hD.1) ?_
        refine E_istore_n dX4_rule_27 (Nat.le_of_ble_eq_true rfl) ?_
        refine E_iload_n dX4_rule_28 rfl ?_
        refine E_zN_lt (a := w.1) (tgt := 38) dX4_rule_29 (by omega) (by decide) (fun cw29 => cw29.elim) (fun cw29 => ?_)
        refine E_iload_n dX4_rule_32 rfl ?_
        refine E_bp (nI 16) dX4_rule_33 (by decide) ?_
        refine E_cN_lt (a := w.1) (b := 16) (tgt := 44) dX4_rule_35 (by omega) (by decide) (by decide) (fun cw35 => ?_) (fun cw35 => absurd cw35 (by omega))
        refine E_aload_n dX4_rule_44 rfl ?_
        refine E_dup dX4_rule_45 rfl ?_
        refine E_getI dX4_rule_46 f_X4_29 rfl (Nat.lt_of_lt_of_le (by decide) hN) rfl ?_
        refine E.top (hP.1) ?_
        refine E_ic (nI 1) dX4_rule_49 (by decide) ?_
        refine E_iadd dX4_rule_50 ?_
        refine E.top (nI_add p 1) ?_
        refine E_putI dX4_rule_51 f_X4_29 rfl (Nat.lt_of_lt_of_le (by decide) hN) rfl ?_
        refine E_aload_n dX4_rule_54 rfl ?_
        refine E_getR dX4_rule_55 f_X4_12 rfl (Nat.lt_of_lt_of_le (by decide) hN) rfl (hR _ _ _ rfl) ?_
        refine E_getR dX4_rule_58 f_X4_68 rfl (Nat.lt_of_lt_of_le (by decide) hN) rfl (hR _ _ _ rfl) ?_
        refine E_iload_n dX4_rule_61 rfl ?_
        refine E_iload_n dX4_rule_62 rfl ?_
        refine E_iastN dX4_rule_63 rfl (Nat.lt_of_lt_of_le (by decide) hN) (by omega) ?_
        refine E_aload_n dX4_rule_64 rfl ?_
        refine E_getR dX4_rule_65 f_X4_12 rfl (Nat.lt_of_lt_of_le (by decide) hN) rfl (hR _ _ _ rfl) ?_
        refine E_getR dX4_rule_68 f_X4_71 rfl (Nat.lt_of_lt_of_le (by decide) hN) rfl (hR _ _ _ rfl) ?_
        refine E_iload_n dX4_rule_71 rfl ?_
        refine E_aload_n dX4_rule_72 rfl ?_
        refine E_getI dX4_rule_73 f_X4_32 rfl (Nat.lt_of_lt_of_le (by decide) hN) rfl ?_
        refine E.top ((congrFun (up2_o _ 14 _ _ 11 (by decide)) 4).trans ((up2_k _ _ (by decide)).trans hP.2.1)) ?_
        refine E_iastN dX4_rule_76 rfl (Nat.lt_of_lt_of_le (by decide) hN) (by omega) ?_
        refine E_iload_n dX4_rule_77 rfl ?_
        refine E_bp (nI 120) dX4_rule_78 (by decide) ?_
        refine E_cN_eq (a := c p) (b := 120) (tgt := 93) dX4_rule_80 (by omega) (by decide) (by decide) (fun cw80 => ?_) (fun cw80 => absurd cw80 (by omega))
        have hDB : LDx w (up2 (up2 (up2 I 11 3 (nI (p + 1))) 14 w.1 (nI (c p))) 15 w.1 (nI (wS w))) ∧ (up2 (up2 (up2 I 11 3 (nI (p + 1))) 14 w.1 (nI (c p))) 15 w.1 (nI (wS w))) 14 w.1 = nI (c p) ∧ (up2 (up2 (up2 I 11 3 (nI (p + 1))) 14 w.1 (nI (c p))) 15 w.1 (nI (wS w))) 15 w.1 = nI (wS w) := by
          refine ⟨⟨?_, fun k hk => ?_⟩, (congrFun (up2_o _ 15 _ _ 14 (by decide)) _).trans (up2_s _ _ _ _), up2_s _ _ _ _⟩
          · rw [up2_o _ 15 _ _ 12 (by decide), up2_o _ 14 _ _ 12 (by decide), up2_o _ 11 _ _ 12 (by decide)]
            exact hD.1
          · rw [up2_o _ 15 _ _ 14 (by decide), up2_k _ _ (show k ≠ w.1 by omega), up2_k _ _ (show k ≠ w.1 by omega), up2_o _ 15 _ _ 16 (by decide), up2_o _ 15 _ _ 17 (by decide), up2_o _ 14 _ _ 15 (by decide), up2_o _ 14 _ _ 16 (by decide), up2_o _ 14 _ _ 17 (by decide), up2_o _ 11 _ _ 14 (by decide), up2_o _ 11 _ _ 15 (by decide), up2_o _ 11 _ _ 16 (by decide), up2_o _ 11 _ _ 17 (by decide)]
            exact hD.2 k hk
        exact x_ruleC (ch := c p) (a := (p + 1, wS w, wC w)) (w := w) hd hN hR hc hL (hC.keepR (((FRx.of (FLx.up I (nI (p + 1)) (by decide))).trans (FRx.row (up2 I 11 3 (nI (p + 1))) w.1 (nI (c p)) (by decide))).trans (FRx.row _ w.1 (nI (wS w)) (by decide)))) (((PLx.at (q := (p, wS w, wC w)) hP (p + 1)).row w.1 (nI (c p)) (a := 14) (by decide)).row w.1 (nI (wS w)) (a := 15) (by decide)) hp (Nat.le_succ_of_le hw.2.1) hw.2.2.1 (by omega) hDB.1 hDB.2.1 hDB.2.2 (fun x hx I' f' e' => (hQ.l (ru_cl c1 c2 (if_pos c3) hx)) I' ((((FRx.of (FLx.up I (nI (p + 1)) (by decide))).trans (FRx.row (up2 I 11 3 (nI (p + 1))) w.1 (nI (c p)) (by decide))).trans (FRx.row _ w.1 (nI (wS w)) (by decide))).trans f') e') (fun r hr I' f' p' l' => (hQ.r (ru_cr c1 c2 (if_pos c3) hr)) I' ((((FRx.of (FLx.up I (nI (p + 1)) (by decide))).trans (FRx.row (up2 I 11 3 (nI (p + 1))) w.1 (nI (c p)) (by decide))).trans (FRx.row _ w.1 (nI (wS w)) (by decide))).trans f') p' l')
      · skip
        refine E_aload_n dX4_rule_0 rfl ?_
        refine E_callV (As := []) (ci := 4) (kc' := 0) (ks' := 0) (kc := 0) (ks := 0) dX4_rule_1 ok_X4_next w_X4_51 i_X4_next s_X4_next rfl (by decide) rfl (Nat.lt_of_lt_of_le (by decide) hN) rfl rfl rfl (Nat.le_of_ble_eq_true rfl) (Nat.le_of_ble_eq_true rfl) (by omega) (x_nextL (d := 0) hN hR hc hL hC (p := p) (by omega) hP.1 ?_)
        refine E.top (show chI (c p) = nI (c p) from if_pos (rl_lt c1)) ?_
        refine E_istore_n dX4_rule_4 (Nat.le_of_ble_eq_true rfl) ?_
        refine E_ldcS (i := 1) dX4_rule_5 rfl ?_
        refine E_iload_n dX4_rule_7 rfl ?_
        refine E_callSN (As := [_, _]) (kc' := 0) (ks' := 0) (kc := 0) (ks := 0) dX4_rule_8 ok_X11_placeIn w_X4_64 st_X11_placeIn rfl rfl rfl (Nat.le_of_ble_eq_true rfl) (Nat.le_of_ble_eq_true rfl) (by omega) (c_placeIn (d := 0) (i := 1) rfl ?_)
        refine E.top ((plr (c p) (rl_lt c1)).trans (if_neg c1)) ?_
        refine E_zN_ge (a := rlP (c p)) (tgt := 20) dX4_rule_11 (by omega) (by decide) (fun cw11 => ?_) (fun cw11 => cw11.elim)
        refine E_aload_n dX4_rule_20 rfl ?_
        refine E_getR dX4_rule_21 f_X4_12 rfl (Nat.lt_of_lt_of_le (by decide) hN) rfl (hR _ _ _ rfl) ?_
        refine E_getI dX4_rule_24 f_X4_44 rfl (Nat.lt_of_lt_of_le (by decide) hN) rfl ?_
        refine E.top (hD.1) ?_
        refine E_istore_n dX4_rule_27 (Nat.le_of_ble_eq_true rfl) ?_
        refine E_iload_n dX4_rule_28 rfl ?_
        refine E_zN_lt (a := w.1) (tgt := 38) dX4_rule_29 (by omega) (by decide) (fun cw29 => cw29.elim) (fun cw29 => ?_)
        refine E_iload_n dX4_rule_32 rfl ?_
        refine E_bp (nI 16) dX4_rule_33 (by decide) ?_
        refine E_cN_lt (a := w.1) (b := 16) (tgt := 44) dX4_rule_35 (by omega) (by decide) (by decide) (fun cw35 => ?_) (fun cw35 => absurd cw35 (by omega))
        refine E_aload_n dX4_rule_44 rfl ?_
        refine E_dup dX4_rule_45 rfl ?_
        refine E_getI dX4_rule_46 f_X4_29 rfl (Nat.lt_of_lt_of_le (by decide) hN) rfl ?_
        refine E.top (hP.1) ?_
        refine E_ic (nI 1) dX4_rule_49 (by decide) ?_
        refine E_iadd dX4_rule_50 ?_
        refine E.top (nI_add p 1) ?_
        refine E_putI dX4_rule_51 f_X4_29 rfl (Nat.lt_of_lt_of_le (by decide) hN) rfl ?_
        refine E_aload_n dX4_rule_54 rfl ?_
        refine E_getR dX4_rule_55 f_X4_12 rfl (Nat.lt_of_lt_of_le (by decide) hN) rfl (hR _ _ _ rfl) ?_
        refine E_getR dX4_rule_58 f_X4_68 rfl (Nat.lt_of_lt_of_le (by decide) hN) rfl (hR _ _ _ rfl) ?_
        refine E_iload_n dX4_rule_61 rfl ?_
        refine E_iload_n dX4_rule_62 rfl ?_
        refine E_iastN dX4_rule_63 rfl (Nat.lt_of_lt_of_le (by decide) hN) (by omega) ?_
        refine E_aload_n dX4_rule_64 rfl ?_
        refine E_getR dX4_rule_65 f_X4_12 rfl (Nat.lt_of_lt_of_le (by decide) hN) rfl (hR _ _ _ rfl) ?_
        refine E_getR dX4_rule_68 f_X4_71 rfl (Nat.lt_of_lt_of_le (by decide) hN) rfl (hR _ _ _ rfl) ?_
        refine E_iload_n dX4_rule_71 rfl ?_
        refine E_aload_n dX4_rule_72 rfl ?_
        refine E_getI dX4_rule_73 f_X4_32 rfl (Nat.lt_of_lt_of_le (by decide) hN) rfl ?_
        refine E.top ((congrFun (up2_o _ 14 _ _ 11 (by decide)) 4).trans ((up2_k _ _ (by decide)).trans hP.2.1)) ?_
        refine E_iastN dX4_rule_76 rfl (Nat.lt_of_lt_of_le (by decide) hN) (by omega) ?_
        refine E_iload_n dX4_rule_77 rfl ?_
        refine E_bp (nI 120) dX4_rule_78 (by decide) ?_
        have hDB : LDx w (up2 (up2 (up2 I 11 3 (nI (p + 1))) 14 w.1 (nI (c p))) 15 w.1 (nI (wS w))) ∧ (up2 (up2 (up2 I 11 3 (nI (p + 1))) 14 w.1 (nI (c p))) 15 w.1 (nI (wS w))) 14 w.1 = nI (c p) ∧ (up2 (up2 (up2 I 11 3 (nI (p + 1))) 14 w.1 (nI (c p))) 15 w.1 (nI (wS w))) 15 w.1 = nI (wS w) := by
          refine ⟨⟨?_, fun k hk => ?_⟩, (congrFun (up2_o _ 15 _ _ 14 (by decide)) _).trans (up2_s _ _ _ _), up2_s _ _ _ _⟩
          · rw [up2_o _ 15 _ _ 12 (by decide), up2_o _ 14 _ _ 12 (by decide), up2_o _ 11 _ _ 12 (by decide)]
            exact hD.1
          · rw [up2_o _ 15 _ _ 14 (by decide), up2_k _ _ (show k ≠ w.1 by omega), up2_k _ _ (show k ≠ w.1 by omega), up2_o _ 15 _ _ 16 (by decide), up2_o _ 15 _ _ 17 (by decide), up2_o _ 14 _ _ 15 (by decide), up2_o _ 14 _ _ 16 (by decide), up2_o _ 14 _ _ 17 (by decide), up2_o _ 11 _ _ 14 (by decide), up2_o _ 11 _ _ 15 (by decide), up2_o _ 11 _ _ 16 (by decide), up2_o _ 11 _ _ 17 (by decide)]
            exact hD.2 k hk
        refine E_cN_eq (a := c p) (b := 120) (tgt := 93) dX4_rule_80 (by omega) (by decide) (by decide) (fun cw80 => absurd cw80 (by omega)) (fun cw80 => ?_)
        refine E_aload_n dX4_rule_83 rfl ?_
        refine E_ic (nI 0) dX4_rule_84 (by decide) ?_
        refine E_callV (As := [_]) (ci := 4) (kc' := 0) (ks' := 0) (kc := 0) (ks := 0) dX4_rule_85 ok_X4_sum w_X4_74 i_X4_sum s_X4_sum rfl (by decide) rfl (Nat.lt_of_lt_of_le (by decide) hN) rfl rfl rfl (Nat.le_of_ble_eq_true rfl) (Nat.le_of_ble_eq_true rfl) (by omega) (x_sum hc hL 6 (by decide) g (d - 1) n _ J R _ (p + 1, wS w, wC w) (by omega) hN hR (hC.keepR (((FRx.of (FLx.up I (nI (p + 1)) (by decide))).trans (FRx.row (up2 I 11 3 (nI (p + 1))) w.1 (nI (c p)) (by decide))).trans (FRx.row _ w.1 (nI (wS w)) (by decide)))) (((PLx.at (q := (p, wS w, wC w)) hP (p + 1)).row w.1 (nI (c p)) (a := 14) (by decide)).row w.1 (nI (wS w)) (a := 15) (by decide)) hp (Nat.le_succ_of_le hw.2.1) ?_)
        cases hsm : smL c 6 (p + 1, wS w, wC w) with
        | inl x =>
          intro I4 f4 e4
          refine E_zN_ne (a := 0) (tgt := 93) dX4_rule_88 (by decide) (by decide) (fun cw88 => absurd cw88 (by omega)) (fun cw88 => ?_)
          refine E_ic (nI 0) dX4_rule_91 (by decide) ?_
          exact E_zret dX4_rule_92 rfl (by decide) ((hQ.l (ru_l c1 c2 ((if_neg c3).trans hsm))) I4 ((((FRx.of (FLx.up I (nI (p + 1)) (by decide))).trans (FRx.row (up2 I 11 3 (nI (p + 1))) w.1 (nI (c p)) (by decide))).trans (FRx.row _ w.1 (nI (wS w)) (by decide))).trans (FRx.of f4)) e4)
        | inr r =>
          intro I4 f4 p4
          obtain ⟨g1, _, _, _⟩ := sm_ok hc 6 (p + 1, wS w, wC w) r hp (Nat.le_succ_of_le hw.2.1) hsm
          refine E_zN_ne (a := 1) (tgt := 93) dX4_rule_88 (by decide) (by decide) (fun cw88 => ?_) (fun cw88 => absurd cw88 (by omega))
          exact x_ruleC (ch := c p) (a := r) (w := w) hd hN hR hc hL ((hC.keepR (((FRx.of (FLx.up I (nI (p + 1)) (by decide))).trans (FRx.row (up2 I 11 3 (nI (p + 1))) w.1 (nI (c p)) (by decide))).trans (FRx.row _ w.1 (nI (wS w)) (by decide)))).keep f4) p4 g1.2.1 (OKP.s (h := 20) (V := V01) g1 (Nat.le_succ_of_le hw.2.1)) (CDok.gw (q := (p + 1, wS w, wC w)) hw.2.2.1 g1) (by omega) (hDB.1.keep f4) ((congrFun (f4.1 14 (by decide) (by decide)) _).trans hDB.2.1) ((congrFun (f4.1 15 (by decide) (by decide)) _).trans hDB.2.2) (fun x hx I' f' e' => (hQ.l (ru_cl c1 c2 ((if_neg c3).trans hsm) hx)) I' (((((FRx.of (FLx.up I (nI (p + 1)) (by decide))).trans (FRx.row (up2 I 11 3 (nI (p + 1))) w.1 (nI (c p)) (by decide))).trans (FRx.row _ w.1 (nI (wS w)) (by decide))).trans (FRx.of f4)).trans f') e') (fun v hv I' f' p' l' => (hQ.r (ru_cr c1 c2 ((if_neg c3).trans hsm) hv)) I' (((((FRx.of (FLx.up I (nI (p + 1)) (by decide))).trans (FRx.row (up2 I 11 3 (nI (p + 1))) w.1 (nI (c p)) (by decide))).trans (FRx.row _ w.1 (nI (wS w)) (by decide))).trans (FRx.of f4)).trans f') p' l')
end PLawX4
