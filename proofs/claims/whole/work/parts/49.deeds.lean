/-! ===== deeds ===== -/
/-- what is known, by letter -/
def fcN (k LN : Nat) (Y S D : FN) (i w : Nat) : Nat → Nat
  | 0 => k
  | 1 => LN - D 3
  | 2 => D 0
  | 3 => D 1
  | 4 => D 2
  | 5 => if D 3 < LN then Y (D 3) else 0
  | 6 => if D 3 < LN then S (D 3) else 0
  | 7 => i
  | _ => w
abbrev fcI (k LN : Nat) (Y S D : FN) (i w : Nat) : Nat → Int32 := fun j => nI (fcN k LN Y S D i w j)
abbrev amQ (q : LWD) (fa : Nat → Int32) (w mo : Nat) : Nat := amL q fa w mo q.1 0
abbrev brQ (q : LWD) (fa : Nat → Int32) : Nat := brL q fa q.1 0
theorem amQ_le (q : LWD) (fa : Nat → Int32) (w mo : Nat) : amQ q fa w mo ≤ mo := amL_le q fa w mo q.1 0
theorem brQ_le (q : LWD) (fa : Nat → Int32) : brQ q fa ≤ 1 := brL_le q fa q.1 0
/-- 0 fizz, 1 cork, 2 turns, 3 out, 4 unstopped, 5 broken, 6 screw, 7 come -/
def lsD (b : Nat) (D : FN) : FN := if D 1 - b = 0 then up1 (up1 D 1 0) 5 1 else up1 D 1 (D 1 - b)
def cmD (LN m : Nat) (D : FN) : FN := up1 (up1 D 3 (D 3 + min m (LN - D 3))) 7 (D 7 + min m (LN - D 3))
def opD (D : FN) : FN := up1 (up1 D 4 1) 2 0
def d0D (D : FN) : FN := if D 4 = 0 ∧ 0 < D 6 then (if 5 < min 9 (D 2 + 1) then lsD 1 (up1 (up1 D 2 (min 9 (D 2 + 1))) 6 (D 6 - 1)) else up1 (up1 D 2 (min 9 (D 2 + 1))) 6 (D 6 - 1)) else D
def d1D (a b : Nat) (D : FN) : FN := if D 4 = 0 then (if a ≤ D 2 ∧ b = 0 then opD D else lsD 2 D) else D
def d2D (LN a : Nat) (D : FN) : FN := if D 4 = 0 ∧ min 19 (D 0 + a) = 19 then cmD LN 1 (opD (up1 D 0 (min 19 (D 0 + a)))) else up1 D 0 (min 19 (D 0 + a))
def d3D (a : Nat) (D : FN) : FN := up1 D 0 (D 0 - a)
def d4D (LN a : Nat) (D : FN) : FN := if D 4 = 0 then D else up1 (cmD LN a D) 0 (D 0 - min a (LN - D 3))
def d5D (D : FN) : FN := up1 (up1 (up1 D 4 0) 1 9) 2 0
def ddS (q : LWD) (k LN : Nat) (Y S : FN) (deed i w : Nat) (D : FN) : FN := match deed with
  | 0 => d0D D
  | 1 => d1D (amQ q (fcI k LN Y S D i w) 103 9) (brQ q (fcI k LN Y S D i w)) D
  | 2 => d2D LN (amQ q (fcI k LN Y S D i w) 102 19) D
  | 3 => d3D (amQ q (fcI k LN Y S D i w) 97 19) D
  | 4 => d4D LN (amQ q (fcI k LN Y S D i w) 100 9) D
  | _ => d5D D
/-- within bounds -/
def okD (LN : Nat) (D : FN) : Prop := D 0 ≤ 19 ∧ D 1 ≤ 9 ∧ D 2 ≤ 9 ∧ D 3 ≤ LN ∧ D 4 ≤ 1 ∧ D 5 ≤ 1 ∧ (D 4 = 1 → D 2 = 0) ∧ (D 5 = 0 → 1 ≤ D 1) ∧ D 6 ≤ 99 ∧ True
theorem up1_s (f : FN) (a v : Nat) : up1 f a v a = v := if_pos rfl
theorem up1_n {f : FN} {a v x : Nat} (h : x ≠ a) : up1 f a v x = f x := if_neg h
theorem lsD_ok {LN b : Nat} {D : FN} (h : okD LN D) : okD LN (lsD b D) := by
  obtain ⟨h0, h1, h2, h3, h4, h5, h6, h7, h8, h9⟩ := h
  unfold lsD
  split
  · exact ⟨h0, Nat.zero_le _, h2, h3, h4, Nat.le_refl _, h6, fun z => absurd (show (1 : Nat) = 0 from z) (by decide), h8, h9⟩
  · exact ⟨h0, by show D 1 - b ≤ 9; omega, h2, h3, h4, h5, h6, fun _ => by show 1 ≤ D 1 - b; omega, h8, h9⟩
theorem cmD_ok {LN m : Nat} {D : FN} (h : okD LN D) : okD LN (cmD LN m D) := by
  obtain ⟨h0, h1, h2, h3, h4, h5, h6, h7, h8, h9⟩ := h
  have e3 : cmD LN m D 3 = D 3 + min m (LN - D 3) := rfl
  have e7 : cmD LN m D 7 = D 7 + min m (LN - D 3) := rfl
  exact ⟨h0, h1, h2, by rw [e3]; omega, h4, h5, h6, h7, h8, trivial⟩
theorem opD_ok {LN : Nat} {D : FN} (h : okD LN D) : okD LN (opD D) := by
  obtain ⟨h0, h1, h2, h3, h4, h5, h6, h7, h8, h9⟩ := h
  exact ⟨h0, h1, Nat.zero_le _, h3, Nat.le_refl _, h5, fun _ => rfl, h7, h8, h9⟩
theorem fzD_ok {LN v : Nat} {D : FN} (h : okD LN D) (hv : v ≤ 19) : okD LN (up1 D 0 v) := by
  obtain ⟨h0, h1, h2, h3, h4, h5, h6, h7, h8, h9⟩ := h
  exact ⟨hv, h1, h2, h3, h4, h5, h6, h7, h8, h9⟩
theorem ddS_ok {q : LWD} {k LN : Nat} {Y S D : FN} {deed i w : Nat} (h : okD LN D) : okD LN (ddS q k LN Y S deed i w D) := by
  have h0 := h
  obtain ⟨h0', h1, h2, h3, h4, h5, h6, h7, h8, h9⟩ := h
  unfold ddS
  split
  · unfold d0D
    split
    · rename_i hc
      have hk : okD LN (up1 (up1 D 2 (min 9 (D 2 + 1))) 6 (D 6 - 1)) := ⟨h0', h1, by show min 9 (D 2 + 1) ≤ 9; omega, h3, h4, h5, fun z => by have : D 4 = 1 := z; omega, h7, by show D 6 - 1 ≤ 99; omega, h9⟩
      split
      · exact lsD_ok hk
      · exact hk
    · exact h0
  · unfold d1D
    split
    · split
      · exact opD_ok h0
      · exact lsD_ok h0
    · exact h0
  · unfold d2D
    split
    · exact cmD_ok (opD_ok (fzD_ok h0 (by omega)))
    · exact fzD_ok h0 (by omega)
  · exact fzD_ok h0 (by omega)
  · unfold d4D
    split
    · exact h0
    · exact fzD_ok (cmD_ok h0) (by omega)
  · exact ⟨h0', Nat.le_refl _, Nat.zero_le _, h3, Nat.zero_le _, h5, fun z => absurd (show (0 : Nat) = 1 from z) (by decide), fun _ => by show 1 ≤ 9; decide, h8, h9⟩
theorem lsD_c (b : Nat) (D : FN) : lsD b D 7 = D 7 ∧ lsD b D 3 = D 3 := by
  unfold lsD
  split
  · exact ⟨rfl, rfl⟩
  · exact ⟨rfl, rfl⟩
theorem cmD_c {LN m : Nat} {D : FN} (h : D 7 ≤ D 3) : cmD LN m D 7 ≤ cmD LN m D 3 := by
  show D 7 + min m (LN - D 3) ≤ D 3 + min m (LN - D 3)
  omega
/-- no more come than are out -/
theorem ddS_c {q : LWD} {k LN : Nat} {Y S D : FN} {deed i w : Nat} (h : D 7 ≤ D 3) : ddS q k LN Y S deed i w D 7 ≤ ddS q k LN Y S deed i w D 3 := by
  unfold ddS
  split
  · unfold d0D
    split
    · split
      · rw [(lsD_c _ _).1, (lsD_c _ _).2]
        exact h
      · exact h
    · exact h
  · unfold d1D
    split
    · split
      · exact h
      · rw [(lsD_c _ _).1, (lsD_c _ _).2]
        exact h
    · exact h
  · unfold d2D
    split
    · exact cmD_c (D := opD _) h
    · exact h
  · exact h
  · unfold d4D
    split
    · exact h
    · exact cmD_c (D := D) h
  · exact h
/-! the class's butler -/
def BXc (k LN : Nat) (Y S : FN) (q : LWD) (I : IM) (R : RM) : Prop := R 22 1 = some (54 + 5 * k) ∧ R 22 2 = some 3 ∧ I 22 3 = nI k ∧ I (54 + 5 * k) 4 = nI LN ∧ (∀ i, i < LN → I (55 + 5 * k) i = nI (Y i) ∧ I (56 + 5 * k) i = nI (S i)) ∧ LXq q I
def BDc (D : FN) (I : IM) : Prop := I 22 4 = nI (D 6) ∧ I 22 6 = nI (D 7) ∧ ∀ j, j < 6 → I 23 j = nI (D j)
def BFc (I I' : IM) : Prop := (∀ x, x ≠ 9 → x ≠ 10 → x ≠ 22 → x ≠ 23 → I' x = I x) ∧ ∀ j, j ≠ 4 → j ≠ 6 → I' 22 j = I 22 j
theorem BFc.refl (I : IM) : BFc I I := ⟨fun _ _ _ _ _ => rfl, fun _ _ _ => rfl⟩
theorem BFc.trans {I I' I2 : IM} (h : BFc I I') (h2 : BFc I' I2) : BFc I I2 := ⟨fun x a b c d => (h2.1 x a b c d).trans (h.1 x a b c d), fun j a b => (h2.2 j a b).trans (h.2 j a b)⟩
theorem LXq.keep {q : LWD} {I I' : IM} (h : LXq q I) (e : ∀ a, 3 ≤ a → a ≤ 8 → I' a = I a) : LXq q I' := ⟨by rw [e 3 (by decide) (by decide)]; exact h.1, fun r hr => by rw [e 5 (by decide) (by decide), e 6 (by decide) (by decide), e 7 (by decide) (by decide), e 8 (by decide) (by decide)]; exact h.2.1 r hr, fun i hi => by rw [e 4 (by decide) (by decide)]; exact h.2.2 i hi⟩
theorem BXc.keep {k LN : Nat} {Y S : FN} {q : LWD} {I I' : IM} {R : RM} (h : BXc k LN Y S q I R) (f : BFc I I') : BXc k LN Y S q I' R := ⟨h.1, h.2.1, (f.2 3 (by decide) (by decide)).trans h.2.2.1, (congrFun (f.1 (54 + 5 * k) (by omega) (by omega) (by omega) (by omega)) 4).trans h.2.2.2.1, fun i hi => by rw [f.1 (55 + 5 * k) (by omega) (by omega) (by omega) (by omega), f.1 (56 + 5 * k) (by omega) (by omega) (by omega) (by omega)]; exact h.2.2.2.2.1 i hi, h.2.2.2.2.2.keep (fun a a1 a2 => f.1 a (by omega) (by omega) (by omega) (by omega))⟩
theorem BFc.row {I I' : IM} {a : Nat} (h : ∀ x, x ≠ a → I' x = I x) (ha : a = 9 ∨ a = 10 ∨ a = 23) : BFc I I' := ⟨fun x h1 h2 h3 h4 => h x (by omega), fun j _ _ => congrFun (h 22 (by omega)) j⟩
theorem BFc.up (I : IM) {j : Nat} (v : Int32) (hj : j = 4 ∨ j = 6) : BFc I (up2 I 22 j v) := ⟨fun x _ _ h3 _ => up2_o I 22 j v x h3, fun i h1 h2 => up2_k I v (by omega)⟩
theorem BDc.row {D : FN} {I I' : IM} (h : BDc D I) (h2 : I' 22 = I 22) (h3 : I' 23 = I 23) : BDc D I' := ⟨by rw [h2]; exact h.1, by rw [h2]; exact h.2.1, fun j hj => by rw [h3]; exact h.2.2 j hj⟩
theorem BDc.st {D : FN} {I : IM} (h : BDc D I) {j : Nat} (v : Nat) (hj : j < 6) : BDc (up1 D j v) (up2 I 23 j (nI v)) := ⟨(congrFun (up2_o I 23 j _ 22 (by decide)) 4).trans (by rw [up1_n (by omega)]; exact h.1), (congrFun (up2_o I 23 j _ 22 (by decide)) 6).trans (by rw [up1_n (by omega)]; exact h.2.1), fun i hi => by
    by_cases e : i = j
    · subst e
      rw [up1_s]
      exact up2_s _ _ _ _
    · rw [up1_n e, up2_k I _ e]
      exact h.2.2 i hi⟩
theorem BDc.sc {D : FN} {I : IM} (h : BDc D I) (v : Nat) : BDc (up1 D 6 v) (up2 I 22 4 (nI v)) := ⟨up2_s _ _ _ _, (up2_k I _ (by decide)).trans h.2.1, fun i hi => by rw [up1_n (by omega)]; exact (congrFun (up2_o I 22 4 _ 23 (by decide)) i).trans (h.2.2 i hi)⟩
theorem BDc.cm {D : FN} {I : IM} (h : BDc D I) (v : Nat) : BDc (up1 D 7 v) (up2 I 22 6 (nI v)) := ⟨(up2_k I _ (by decide)).trans h.1, up2_s _ _ _ _, fun i hi => by rw [up1_n (by omega)]; exact (congrFun (up2_o I 22 6 _ 23 (by decide)) i).trans (h.2.2 i hi)⟩
theorem row23 (I : IM) (j : Nat) (v : Int32) : BFc I (up2 I 23 j v) := BFc.row (fun x hx => up2_o I 23 j v x hx) (by decide)
theorem BDc.ls {D : FN} {I : IM} (h : BDc D I) {b : Nat} (hb : b ≤ 2) (h9 : D 1 ≤ 9) : BDc (lsD b D) (loo I 23 (nI b)) ∧ BFc I (loo I 23 (nI b)) := by
  have e1 : I 23 1 = nI (D 1) := h.2.2 1 (by decide)
  have key : ∀ a, a < 10 → ∀ b, b < 3 → (0 < nI a - nI b ↔ 0 < a - b) ∧ (0 < a - b → nI a - nI b = nI (a - b)) := by decide +kernel
  obtain ⟨k1, k2⟩ := key (D 1) (by omega) b (by omega)
  unfold loo lsD
  rw [e1]
  by_cases c : D 1 - b = 0
  · rw [if_neg (show ¬ 0 < nI (D 1) - nI b from fun z => by have := k1.mp z; omega), if_pos c]
    exact ⟨(h.st 0 (by decide)).st 1 (by decide), (row23 _ _ _).trans (row23 _ _ _)⟩
  · rw [if_pos (k1.mpr (by omega)), if_neg c, k2 (by omega)]
    exact ⟨h.st _ (by decide), row23 _ _ _⟩
section PDeeds
variable {g : GL} {d n : Nat} {I : IM} {J : JM} {R : RM} {Q : PQ} {k LN i w : Nat} {Y S D : FN} {q : LWD}
set_option maxRecDepth 100000 in
set_option maxHeartbeats 2000000 in
theorem x_learn (hN : 152 ≤ n) (hR : RS R) (hk : k < 12) (hq : LWF q) (hLN : LN ≤ 24) (hX : BXc k LN Y S q I R) (hO : okD LN D) (hD : BDc D I) (hQ : ∀ I2 : IM, (∀ x, x ≠ 9 → I2 x = I x) → (∀ j, j < 9 → I2 9 j = fcI k LN Y S D i w j) → Q none n I2 J R) : E g mX0_learn d 0 0 0 (ent 5 [.ref 22, .int (nI i), .int (nI w)]) [] n I J R Q := by
  obtain ⟨o0, o1, o2, o3, o4, o5, o6, o7, o8, o9⟩ := hO
  by_cases hin : D 3 < LN
  · skip
    refine E_aload_n dX0_learn_0 rfl ?_
    refine E_getR dX0_learn_1 f_X0_28 rfl (Nat.lt_of_lt_of_le (by decide) hN) rfl hX.2.1 ?_
    refine E_getR dX0_learn_4 f_X0_129 rfl (Nat.lt_of_lt_of_le (by decide) hN) rfl (hR _ _ _ rfl) ?_
    refine E_astore_n dX0_learn_7 (Nat.le_of_ble_eq_true rfl) ?_
    refine E_aload_n dX0_learn_8 rfl ?_
    refine E_getR dX0_learn_9 f_X0_12 rfl (Nat.lt_of_lt_of_le (by decide) hN) rfl (hR _ _ _ rfl) ?_
    refine E_getI dX0_learn_12 f_X0_64 rfl (Nat.lt_of_lt_of_le (by decide) hN) rfl ?_
    refine E.top (hD.2.2 3 (by decide)) ?_
    refine E_aload_n dX0_learn_15 rfl ?_
    refine E_getR dX0_learn_16 f_X0_21 rfl (Nat.lt_of_lt_of_le (by decide) hN) rfl hX.1 ?_
    refine E_getI dX0_learn_19 f_X0_126 (LYw k (by first | assumption | omega)).1 (by first | assumption | omega) rfl ?_
    refine E.top (hX.2.2.2.1) ?_
    refine E_cN_ge (a := D 3) (b := LN) (tgt := 41) dX0_learn_22 (by omega) (by omega) (by decide) (fun cw22 => absurd cw22 (by omega)) (fun cw22 => ?_)
    refine E_aload_n dX0_learn_25 rfl ?_
    refine E_getR dX0_learn_26 f_X0_12 rfl (Nat.lt_of_lt_of_le (by decide) hN) rfl (hR _ _ _ rfl) ?_
    refine E_getI dX0_learn_29 f_X0_64 rfl (Nat.lt_of_lt_of_le (by decide) hN) rfl ?_
    refine E.top (hD.2.2 3 (by decide)) ?_
    refine E_bp (nI 24) dX0_learn_32 (by decide) ?_
    refine E_cN_ge (a := D 3) (b := 24) (tgt := 41) dX0_learn_34 (by omega) (by decide) (by decide) (fun cw34 => absurd cw34 (by omega)) (fun cw34 => ?_)
    refine E_ic (nI 1) dX0_learn_37 (by decide) ?_
    refine E_goto (tgt := 42) dX0_learn_38 (by decide) ?_
    refine E_istore dX0_learn_42 (Nat.le_of_ble_eq_true rfl) ?_
    refine E_aload_n dX0_learn_44 rfl ?_
    refine E_ic (nI 0) dX0_learn_45 (by decide) ?_
    refine E_aload_n dX0_learn_46 rfl ?_
    refine E_getI dX0_learn_47 f_X0_32 rfl (Nat.lt_of_lt_of_le (by decide) hN) rfl ?_
    refine E.top (hX.2.2.1) ?_
    refine E_iastN dX0_learn_50 rfl (Nat.lt_of_lt_of_le (by decide) hN) (by decide) ?_
    refine E_aload_n dX0_learn_51 rfl ?_
    refine E_ic (nI 1) dX0_learn_52 (by decide) ?_
    refine E_aload_n dX0_learn_53 rfl ?_
    refine E_getR dX0_learn_54 f_X0_21 rfl (Nat.lt_of_lt_of_le (by decide) hN) rfl hX.1 ?_
    refine E_getI dX0_learn_57 f_X0_126 (LYw k (by first | assumption | omega)).1 (by first | assumption | omega) rfl ?_
    refine E.top ((congrFun (up2_o _ 9 _ _ (54 + 5 * k) (by omega)) 4).trans (hX.2.2.2.1)) ?_
    refine E_aload_n dX0_learn_60 rfl ?_
    refine E_getR dX0_learn_61 f_X0_12 rfl (Nat.lt_of_lt_of_le (by decide) hN) rfl (hR _ _ _ rfl) ?_
    refine E_getI dX0_learn_64 f_X0_64 rfl (Nat.lt_of_lt_of_le (by decide) hN) rfl ?_
    refine E.top ((congrFun (up2_o _ 9 _ _ 23 (by omega)) 3).trans (hD.2.2 3 (by decide))) ?_
    refine E_isub dX0_learn_67 ?_
    refine E.top (pk_sub (a := LN) (b := D 3) (by omega)) ?_
    refine E_iastN dX0_learn_68 rfl (Nat.lt_of_lt_of_le (by decide) hN) (by decide) ?_
    refine E_aload_n dX0_learn_69 rfl ?_
    refine E_ic (nI 2) dX0_learn_70 (by decide) ?_
    refine E_aload_n dX0_learn_71 rfl ?_
    refine E_getR dX0_learn_72 f_X0_12 rfl (Nat.lt_of_lt_of_le (by decide) hN) rfl (hR _ _ _ rfl) ?_
    refine E_getI dX0_learn_75 f_X0_84 rfl (Nat.lt_of_lt_of_le (by decide) hN) rfl ?_
    refine E.top ((congrFun ((up2_o _ 9 _ _ 23 (by omega)).trans (up2_o _ 9 _ _ 23 (by omega))) 0).trans (hD.2.2 0 (by decide))) ?_
    refine E_iastN dX0_learn_78 rfl (Nat.lt_of_lt_of_le (by decide) hN) (by decide) ?_
    refine E_aload_n dX0_learn_79 rfl ?_
    refine E_ic (nI 3) dX0_learn_80 (by decide) ?_
    refine E_aload_n dX0_learn_81 rfl ?_
    refine E_getR dX0_learn_82 f_X0_12 rfl (Nat.lt_of_lt_of_le (by decide) hN) rfl (hR _ _ _ rfl) ?_
    refine E_getI dX0_learn_85 f_X0_132 rfl (Nat.lt_of_lt_of_le (by decide) hN) rfl ?_
    refine E.top ((congrFun ((up2_o _ 9 _ _ 23 (by omega)).trans ((up2_o _ 9 _ _ 23 (by omega)).trans (up2_o _ 9 _ _ 23 (by omega)))) 1).trans (hD.2.2 1 (by decide))) ?_
    refine E_iastN dX0_learn_88 rfl (Nat.lt_of_lt_of_le (by decide) hN) (by decide) ?_
    refine E_aload_n dX0_learn_89 rfl ?_
    refine E_ic (nI 4) dX0_learn_90 (by decide) ?_
    refine E_aload_n dX0_learn_91 rfl ?_
    refine E_getR dX0_learn_92 f_X0_12 rfl (Nat.lt_of_lt_of_le (by decide) hN) rfl (hR _ _ _ rfl) ?_
    refine E_getI dX0_learn_95 f_X0_105 rfl (Nat.lt_of_lt_of_le (by decide) hN) rfl ?_
    refine E.top ((congrFun ((up2_o _ 9 _ _ 23 (by omega)).trans ((up2_o _ 9 _ _ 23 (by omega)).trans ((up2_o _ 9 _ _ 23 (by omega)).trans (up2_o _ 9 _ _ 23 (by omega))))) 2).trans (hD.2.2 2 (by decide))) ?_
    refine E_iastN dX0_learn_98 rfl (Nat.lt_of_lt_of_le (by decide) hN) (by decide) ?_
    refine E_aload_n dX0_learn_99 rfl ?_
    refine E_ic (nI 5) dX0_learn_100 (by decide) ?_
    refine E_iload dX0_learn_101 rfl ?_
    refine E_zN_eq (a := 1) (tgt := 124) dX0_learn_103 (by decide) (by decide) (fun cw103 => absurd cw103 (by omega)) (fun cw103 => ?_)
    refine E_aload_n dX0_learn_106 rfl ?_
    refine E_getR dX0_learn_107 f_X0_21 rfl (Nat.lt_of_lt_of_le (by decide) hN) rfl hX.1 ?_
    refine E_getR dX0_learn_110 f_X0_67 (LYw k (by first | assumption | omega)).1 (by first | assumption | omega) rfl (hR _ _ _ (RTw k (by first | assumption | omega)).1) ?_
    refine E_aload_n dX0_learn_113 rfl ?_
    refine E_getR dX0_learn_114 f_X0_12 rfl (Nat.lt_of_lt_of_le (by decide) hN) rfl (hR _ _ _ rfl) ?_
    refine E_getI dX0_learn_117 f_X0_64 rfl (Nat.lt_of_lt_of_le (by decide) hN) rfl ?_
    refine E.top ((congrFun ((up2_o _ 9 _ _ 23 (by omega)).trans ((up2_o _ 9 _ _ 23 (by omega)).trans ((up2_o _ 9 _ _ 23 (by omega)).trans ((up2_o _ 9 _ _ 23 (by omega)).trans (up2_o _ 9 _ _ 23 (by omega)))))) 3).trans (hD.2.2 3 (by decide))) ?_
    refine E_ialdN dX0_learn_120 (LYw k (by first | assumption | omega)).2.1 (by first | assumption | omega) (by omega) ?_
    refine E.top ((congrFun ((up2_o _ 9 _ _ (55 + 5 * k) (by omega)).trans ((up2_o _ 9 _ _ (55 + 5 * k) (by omega)).trans ((up2_o _ 9 _ _ (55 + 5 * k) (by omega)).trans ((up2_o _ 9 _ _ (55 + 5 * k) (by omega)).trans (up2_o _ 9 _ _ (55 + 5 * k) (by omega)))))) _).trans ((hX.2.2.2.2.1 (D 3) (by omega)).1)) ?_
    refine E_goto (tgt := 125) dX0_learn_121 (by decide) ?_
    refine E_iastN dX0_learn_125 rfl (Nat.lt_of_lt_of_le (by decide) hN) (by decide) ?_
    refine E_aload_n dX0_learn_126 rfl ?_
    refine E_bp (nI 6) dX0_learn_127 (by decide) ?_
    refine E_iload dX0_learn_129 rfl ?_
    refine E_zN_eq (a := 1) (tgt := 152) dX0_learn_131 (by decide) (by decide) (fun cw131 => absurd cw131 (by omega)) (fun cw131 => ?_)
    refine E_aload_n dX0_learn_134 rfl ?_
    refine E_getR dX0_learn_135 f_X0_21 rfl (Nat.lt_of_lt_of_le (by decide) hN) rfl hX.1 ?_
    refine E_getR dX0_learn_138 f_X0_135 (LYw k (by first | assumption | omega)).1 (by first | assumption | omega) rfl (hR _ _ _ (RTw k (by first | assumption | omega)).2.1) ?_
    refine E_aload_n dX0_learn_141 rfl ?_
    refine E_getR dX0_learn_142 f_X0_12 rfl (Nat.lt_of_lt_of_le (by decide) hN) rfl (hR _ _ _ rfl) ?_
    refine E_getI dX0_learn_145 f_X0_64 rfl (Nat.lt_of_lt_of_le (by decide) hN) rfl ?_
    refine E.top ((congrFun ((up2_o _ 9 _ _ 23 (by omega)).trans ((up2_o _ 9 _ _ 23 (by omega)).trans ((up2_o _ 9 _ _ 23 (by omega)).trans ((up2_o _ 9 _ _ 23 (by omega)).trans ((up2_o _ 9 _ _ 23 (by omega)).trans (up2_o _ 9 _ _ 23 (by omega))))))) 3).trans (hD.2.2 3 (by decide))) ?_
    refine E_ialdN dX0_learn_148 (LYw k (by first | assumption | omega)).2.2.1 (by first | assumption | omega) (by omega) ?_
    refine E.top ((congrFun ((up2_o _ 9 _ _ (56 + 5 * k) (by omega)).trans ((up2_o _ 9 _ _ (56 + 5 * k) (by omega)).trans ((up2_o _ 9 _ _ (56 + 5 * k) (by omega)).trans ((up2_o _ 9 _ _ (56 + 5 * k) (by omega)).trans ((up2_o _ 9 _ _ (56 + 5 * k) (by omega)).trans (up2_o _ 9 _ _ (56 + 5 * k) (by omega))))))) _).trans ((hX.2.2.2.2.1 (D 3) (by omega)).2)) ?_
    refine E_goto (tgt := 153) dX0_learn_149 (by decide) ?_
    refine E_iastN dX0_learn_153 rfl (Nat.lt_of_lt_of_le (by decide) hN) (by decide) ?_
    refine E_aload_n dX0_learn_154 rfl ?_
    refine E_bp (nI 7) dX0_learn_155 (by decide) ?_
    refine E_iload_n dX0_learn_157 rfl ?_
    refine E_iastN dX0_learn_158 rfl (Nat.lt_of_lt_of_le (by decide) hN) (by decide) ?_
    refine E_aload_n dX0_learn_159 rfl ?_
    refine E_bp (nI 8) dX0_learn_160 (by decide) ?_
    refine E_iload_n dX0_learn_162 rfl ?_
    refine E_iastN dX0_learn_163 rfl (Nat.lt_of_lt_of_le (by decide) hN) (by decide) ?_
    exact E_ret dX0_learn_164 rfl (hQ _ (fun x hx => by rw [up2_o _ 9 _ _ x hx, up2_o _ 9 _ _ x hx, up2_o _ 9 _ _ x hx, up2_o _ 9 _ _ x hx, up2_o _ 9 _ _ x hx, up2_o _ 9 _ _ x hx, up2_o _ 9 _ _ x hx, up2_o _ 9 _ _ x hx, up2_o _ 9 _ _ x hx]) (fun j hj => by
          have cj : j = 0 ∨ j = 1 ∨ j = 2 ∨ j = 3 ∨ j = 4 ∨ j = 5 ∨ j = 6 ∨ j = 7 ∨ j = 8 := by omega
          rcases cj with rfl | rfl | rfl | rfl | rfl | rfl | rfl | rfl | rfl
          · rfl
          · rfl
          · rfl
          · rfl
          · rfl
          · exact congrArg nI (if_pos hin).symm
          · exact congrArg nI (if_pos hin).symm
          · rfl
          · rfl))
  · skip
    refine E_aload_n dX0_learn_0 rfl ?_
    refine E_getR dX0_learn_1 f_X0_28 rfl (Nat.lt_of_lt_of_le (by decide) hN) rfl hX.2.1 ?_
    refine E_getR dX0_learn_4 f_X0_129 rfl (Nat.lt_of_lt_of_le (by decide) hN) rfl (hR _ _ _ rfl) ?_
    refine E_astore_n dX0_learn_7 (Nat.le_of_ble_eq_true rfl) ?_
    refine E_aload_n dX0_learn_8 rfl ?_
    refine E_getR dX0_learn_9 f_X0_12 rfl (Nat.lt_of_lt_of_le (by decide) hN) rfl (hR _ _ _ rfl) ?_
    refine E_getI dX0_learn_12 f_X0_64 rfl (Nat.lt_of_lt_of_le (by decide) hN) rfl ?_
    refine E.top (hD.2.2 3 (by decide)) ?_
    refine E_aload_n dX0_learn_15 rfl ?_
    refine E_getR dX0_learn_16 f_X0_21 rfl (Nat.lt_of_lt_of_le (by decide) hN) rfl hX.1 ?_
    refine E_getI dX0_learn_19 f_X0_126 (LYw k (by first | assumption | omega)).1 (by first | assumption | omega) rfl ?_
    refine E.top (hX.2.2.2.1) ?_
    refine E_cN_ge (a := D 3) (b := LN) (tgt := 41) dX0_learn_22 (by omega) (by omega) (by decide) (fun cw22 => ?_) (fun cw22 => absurd cw22 (by omega))
    refine E_ic (nI 0) dX0_learn_41 (by decide) ?_
    refine E_istore dX0_learn_42 (Nat.le_of_ble_eq_true rfl) ?_
    refine E_aload_n dX0_learn_44 rfl ?_
    refine E_ic (nI 0) dX0_learn_45 (by decide) ?_
    refine E_aload_n dX0_learn_46 rfl ?_
    refine E_getI dX0_learn_47 f_X0_32 rfl (Nat.lt_of_lt_of_le (by decide) hN) rfl ?_
    refine E.top (hX.2.2.1) ?_
    refine E_iastN dX0_learn_50 rfl (Nat.lt_of_lt_of_le (by decide) hN) (by decide) ?_
    refine E_aload_n dX0_learn_51 rfl ?_
    refine E_ic (nI 1) dX0_learn_52 (by decide) ?_
    refine E_aload_n dX0_learn_53 rfl ?_
    refine E_getR dX0_learn_54 f_X0_21 rfl (Nat.lt_of_lt_of_le (by decide) hN) rfl hX.1 ?_
    refine E_getI dX0_learn_57 f_X0_126 (LYw k (by first | assumption | omega)).1 (by first | assumption | omega) rfl ?_
    refine E.top ((congrFun (up2_o _ 9 _ _ (54 + 5 * k) (by omega)) 4).trans (hX.2.2.2.1)) ?_
    refine E_aload_n dX0_learn_60 rfl ?_
    refine E_getR dX0_learn_61 f_X0_12 rfl (Nat.lt_of_lt_of_le (by decide) hN) rfl (hR _ _ _ rfl) ?_
    refine E_getI dX0_learn_64 f_X0_64 rfl (Nat.lt_of_lt_of_le (by decide) hN) rfl ?_
    refine E.top ((congrFun (up2_o _ 9 _ _ 23 (by omega)) 3).trans (hD.2.2 3 (by decide))) ?_
    refine E_isub dX0_learn_67 ?_
    refine E.top (pk_sub (a := LN) (b := D 3) (by omega)) ?_
    refine E_iastN dX0_learn_68 rfl (Nat.lt_of_lt_of_le (by decide) hN) (by decide) ?_
    refine E_aload_n dX0_learn_69 rfl ?_
    refine E_ic (nI 2) dX0_learn_70 (by decide) ?_
    refine E_aload_n dX0_learn_71 rfl ?_
    refine E_getR dX0_learn_72 f_X0_12 rfl (Nat.lt_of_lt_of_le (by decide) hN) rfl (hR _ _ _ rfl) ?_
    refine E_getI dX0_learn_75 f_X0_84 rfl (Nat.lt_of_lt_of_le (by decide) hN) rfl ?_
    refine E.top ((congrFun ((up2_o _ 9 _ _ 23 (by omega)).trans (up2_o _ 9 _ _ 23 (by omega))) 0).trans (hD.2.2 0 (by decide))) ?_
    refine E_iastN dX0_learn_78 rfl (Nat.lt_of_lt_of_le (by decide) hN) (by decide) ?_
    refine E_aload_n dX0_learn_79 rfl ?_
    refine E_ic (nI 3) dX0_learn_80 (by decide) ?_
    refine E_aload_n dX0_learn_81 rfl ?_
    refine E_getR dX0_learn_82 f_X0_12 rfl (Nat.lt_of_lt_of_le (by decide) hN) rfl (hR _ _ _ rfl) ?_
    refine E_getI dX0_learn_85 f_X0_132 rfl (Nat.lt_of_lt_of_le (by decide) hN) rfl ?_
    refine E.top ((congrFun ((up2_o _ 9 _ _ 23 (by omega)).trans ((up2_o _ 9 _ _ 23 (by omega)).trans (up2_o _ 9 _ _ 23 (by omega)))) 1).trans (hD.2.2 1 (by decide))) ?_
    refine E_iastN dX0_learn_88 rfl (Nat.lt_of_lt_of_le (by decide) hN) (by decide) ?_
    refine E_aload_n dX0_learn_89 rfl ?_
    refine E_ic (nI 4) dX0_learn_90 (by decide) ?_
    refine E_aload_n dX0_learn_91 rfl ?_
    refine E_getR dX0_learn_92 f_X0_12 rfl (Nat.lt_of_lt_of_le (by decide) hN) rfl (hR _ _ _ rfl) ?_
    refine E_getI dX0_learn_95 f_X0_105 rfl (Nat.lt_of_lt_of_le (by decide) hN) rfl ?_
    refine E.top ((congrFun ((up2_o _ 9 _ _ 23 (by omega)).trans ((up2_o _ 9 _ _ 23 (by omega)).trans ((up2_o _ 9 _ _ 23 (by omega)).trans (up2_o _ 9 _ _ 23 (by omega))))) 2).trans (hD.2.2 2 (by decide))) ?_
    refine E_iastN dX0_learn_98 rfl (Nat.lt_of_lt_of_le (by decide) hN) (by decide) ?_
    refine E_aload_n dX0_learn_99 rfl ?_
    refine E_ic (nI 5) dX0_learn_100 (by decide) ?_
    refine E_iload dX0_learn_101 rfl ?_
    refine E_zN_eq (a := 0) (tgt := 124) dX0_learn_103 (by decide) (by decide) (fun cw103 => ?_) (fun cw103 => absurd cw103 (by omega))
    refine E_ic (nI 0) dX0_learn_124 (by decide) ?_
    refine E_iastN dX0_learn_125 rfl (Nat.lt_of_lt_of_le (by decide) hN) (by decide) ?_
    refine E_aload_n dX0_learn_126 rfl ?_
    refine E_bp (nI 6) dX0_learn_127 (by decide) ?_
    refine E_iload dX0_learn_129 rfl ?_
    refine E_zN_eq (a := 0) (tgt := 152) dX0_learn_131 (by decide) (by decide) (fun cw131 => ?_) (fun cw131 => absurd cw131 (by omega))
    refine E_ic (nI 0) dX0_learn_152 (by decide) ?_
    refine E_iastN dX0_learn_153 rfl (Nat.lt_of_lt_of_le (by decide) hN) (by decide) ?_
    refine E_aload_n dX0_learn_154 rfl ?_
    refine E_bp (nI 7) dX0_learn_155 (by decide) ?_
    refine E_iload_n dX0_learn_157 rfl ?_
    refine E_iastN dX0_learn_158 rfl (Nat.lt_of_lt_of_le (by decide) hN) (by decide) ?_
    refine E_aload_n dX0_learn_159 rfl ?_
    refine E_bp (nI 8) dX0_learn_160 (by decide) ?_
    refine E_iload_n dX0_learn_162 rfl ?_
    refine E_iastN dX0_learn_163 rfl (Nat.lt_of_lt_of_le (by decide) hN) (by decide) ?_
    exact E_ret dX0_learn_164 rfl (hQ _ (fun x hx => by rw [up2_o _ 9 _ _ x hx, up2_o _ 9 _ _ x hx, up2_o _ 9 _ _ x hx, up2_o _ 9 _ _ x hx, up2_o _ 9 _ _ x hx, up2_o _ 9 _ _ x hx, up2_o _ 9 _ _ x hx, up2_o _ 9 _ _ x hx, up2_o _ 9 _ _ x hx]) (fun j hj => by
          have cj : j = 0 ∨ j = 1 ∨ j = 2 ∨ j = 3 ∨ j = 4 ∨ j = 5 ∨ j = 6 ∨ j = 7 ∨ j = 8 := by omega
          rcases cj with rfl | rfl | rfl | rfl | rfl | rfl | rfl | rfl | rfl
          · rfl
          · rfl
          · rfl
          · rfl
          · rfl
          · exact congrArg nI (if_neg hin).symm
          · exact congrArg nI (if_neg hin).symm
          · rfl
          · rfl))
set_option maxRecDepth 100000 in
set_option maxHeartbeats 2000000 in
theorem x_come (hN : 152 ≤ n) (hR : RS R) (hk : k < 12) (hq : LWF q) (hLN : LN ≤ 24) (hX : BXc k LN Y S q I R) (hO : okD LN D) (hD : BDc D I) {m : Nat} (hm : m ≤ 9) (hQ : ∀ I2 : IM, BFc I I2 → BDc (cmD LN m D) I2 → Q (some (.int (nI (min m (LN - D 3))))) n I2 J R) : E g mX0_come (d + 1) 0 0 0 (ent 3 [.ref 22, .int (nI m)]) [] n I J R Q := by
  obtain ⟨o0, o1, o2, o3, o4, o5, o6, o7, o8, o9⟩ := hO
  refine E_iload_n dX0_come_0 rfl ?_
  refine E_aload_n dX0_come_1 rfl ?_
  refine E_getR dX0_come_2 f_X0_21 rfl (Nat.lt_of_lt_of_le (by decide) hN) rfl hX.1 ?_
  refine E_getI dX0_come_5 f_X0_126 (LYw k (by first | assumption | omega)).1 (by first | assumption | omega) rfl ?_
  refine E.top (hX.2.2.2.1) ?_
  refine E_aload_n dX0_come_8 rfl ?_
  refine E_getR dX0_come_9 f_X0_12 rfl (Nat.lt_of_lt_of_le (by decide) hN) rfl (hR _ _ _ rfl) ?_
  refine E_getI dX0_come_12 f_X0_64 rfl (Nat.lt_of_lt_of_le (by decide) hN) rfl ?_
  refine E.top (hD.2.2 3 (by decide)) ?_
  refine E_isub dX0_come_15 ?_
  refine E.top (pk_sub (a := LN) (b := D 3) (by omega)) ?_
  refine E_mmin dX0_come_16 w_X0_108 (Nat.le_of_ble_eq_true rfl) (by omega) ?_
  refine E.top (nI_min m (LN - (D 3)) (by omega) (by omega)) ?_
  refine E_istore_n dX0_come_19 (Nat.le_of_ble_eq_true rfl) ?_
  refine E_aload_n dX0_come_20 rfl ?_
  refine E_getR dX0_come_21 f_X0_12 rfl (Nat.lt_of_lt_of_le (by decide) hN) rfl (hR _ _ _ rfl) ?_
  refine E_dup dX0_come_24 rfl ?_
  refine E_getI dX0_come_25 f_X0_64 rfl (Nat.lt_of_lt_of_le (by decide) hN) rfl ?_
  refine E.top (hD.2.2 3 (by decide)) ?_
  refine E_iload_n dX0_come_28 rfl ?_
  refine E_iadd dX0_come_29 ?_
  refine E.top (nI_add (D 3) (min m (LN - (D 3)))) ?_
  refine E_putI dX0_come_30 f_X0_64 rfl (Nat.lt_of_lt_of_le (by decide) hN) rfl ?_
  refine E_aload_n dX0_come_33 rfl ?_
  refine E_dup dX0_come_34 rfl ?_
  refine E_getI dX0_come_35 f_X0_42 rfl (Nat.lt_of_lt_of_le (by decide) hN) rfl ?_
  refine E.top ((congrFun (up2_o _ 23 _ _ 22 (by decide)) 6).trans hD.2.1) ?_
  refine E_iload_n dX0_come_38 rfl ?_
  refine E_iadd dX0_come_39 ?_
  refine E.top (nI_add (D 7) (min m (LN - (D 3)))) ?_
  refine E_putI dX0_come_40 f_X0_42 rfl (Nat.lt_of_lt_of_le (by decide) hN) rfl ?_
  refine E_iload_n dX0_come_43 rfl ?_
  exact E_iret dX0_come_44 rfl (hQ _ ((row23 _ _ _).trans (BFc.up _ _ (by decide))) ((hD.st _ (by decide)).cm _))
set_option maxRecDepth 100000 in
set_option maxHeartbeats 2000000 in
theorem x_turn (hN : 152 ≤ n) (hR : RS R) (hk : k < 12) (hq : LWF q) (hLN : LN ≤ 24) (hX : BXc k LN Y S q I R) (hO : okD LN D) (hD : BDc D I) (hQ : ∀ I2 : IM, BFc I I2 → BDc (d0D D) I2 → Q none n I2 J R) : E g mX0_turn (d + 4) 0 0 0 (ent 1 [.ref 22]) [] n I J R Q := by
  obtain ⟨o0, o1, o2, o3, o4, o5, o6, o7, o8, o9⟩ := hO
  refine E_aload_n dX0_turn_0 rfl ?_
  refine E_getR dX0_turn_1 f_X0_12 rfl (Nat.lt_of_lt_of_le (by decide) hN) rfl (hR _ _ _ rfl) ?_
  refine E_getI dX0_turn_4 f_X0_102 rfl (Nat.lt_of_lt_of_le (by decide) hN) rfl ?_
  refine E.top (hD.2.2 4 (by decide)) ?_
  refine E_zN_ne (a := D 4) (tgt := 17) dX0_turn_7 (by omega) (by decide) (fun cw7 => ?_) (fun cw7 => ?_)
  · exact E_ret dX0_turn_17 rfl (by first | (rw [show d0D D = D from if_neg (fun z => by have := z.1; omega)] at hQ; exact hQ I (BFc.refl I) hD) | (rw [show d0D D = D from if_neg (fun z => by have := z.2; omega)] at hQ; exact hQ I (BFc.refl I) hD))
  · refine E_aload_n dX0_turn_10 rfl ?_
    refine E_getI dX0_turn_11 f_X0_36 rfl (Nat.lt_of_lt_of_le (by decide) hN) rfl ?_
    refine E.top (hD.1) ?_
    refine E_zN_gt (a := D 6) (tgt := 18) dX0_turn_14 (by omega) (by decide) (fun cw14 => ?_) (fun cw14 => ?_)
    · refine E_aload_n dX0_turn_18 rfl ?_
      refine E_getR dX0_turn_19 f_X0_12 rfl (Nat.lt_of_lt_of_le (by decide) hN) rfl (hR _ _ _ rfl) ?_
      refine E_bp (nI 9) dX0_turn_22 (by decide) ?_
      refine E_aload_n dX0_turn_24 rfl ?_
      refine E_getR dX0_turn_25 f_X0_12 rfl (Nat.lt_of_lt_of_le (by decide) hN) rfl (hR _ _ _ rfl) ?_
      refine E_getI dX0_turn_28 f_X0_105 rfl (Nat.lt_of_lt_of_le (by decide) hN) rfl ?_
      refine E.top (hD.2.2 2 (by decide)) ?_
      refine E_ic (nI 1) dX0_turn_31 (by decide) ?_
      refine E_iadd dX0_turn_32 ?_
      refine E.top (nI_add (D 2) 1) ?_
      refine E_mmin dX0_turn_33 w_X0_108 (Nat.le_of_ble_eq_true rfl) (by omega) ?_
      refine E.top (nI_min 9 ((D 2) + 1) (by omega) (by omega)) ?_
      refine E_putI dX0_turn_36 f_X0_105 rfl (Nat.lt_of_lt_of_le (by decide) hN) rfl ?_
      refine E_aload_n dX0_turn_39 rfl ?_
      refine E_dup dX0_turn_40 rfl ?_
      refine E_getI dX0_turn_41 f_X0_36 rfl (Nat.lt_of_lt_of_le (by decide) hN) rfl ?_
      refine E.top ((congrFun (up2_o _ 23 _ _ 22 (by decide)) 4).trans hD.1) ?_
      refine E_ic (nI 1) dX0_turn_44 (by decide) ?_
      refine E_isub dX0_turn_45 ?_
      refine E.top (pk_sub (a := D 6) (b := 1) (by omega)) ?_
      refine E_putI dX0_turn_46 f_X0_36 rfl (Nat.lt_of_lt_of_le (by decide) hN) rfl ?_
      refine E_aload_n dX0_turn_49 rfl ?_
      refine E_getR dX0_turn_50 f_X0_12 rfl (Nat.lt_of_lt_of_le (by decide) hN) rfl (hR _ _ _ rfl) ?_
      refine E_getI dX0_turn_53 f_X0_105 rfl (Nat.lt_of_lt_of_le (by decide) hN) rfl ?_
      refine E.top (((hD.st (j := 2) (min 9 (D 2 + 1)) (by decide)).sc (D 6 - 1)).2.2 2 (by decide)) ?_
      refine E_ic (nI 5) dX0_turn_56 (by decide) ?_
      refine E_cN_le (a := min 9 (D 2 + 1)) (b := 5) (tgt := 68) dX0_turn_57 (by omega) (by decide) (by decide) (fun cw57 => ?_) (fun cw57 => ?_)
      · exact E_ret dX0_turn_68 rfl (by first | (rw [show d0D D = up1 (up1 D 2 (min 9 (D 2 + 1))) 6 (D 6 - 1) from (if_pos ⟨by omega, by omega⟩).trans (if_neg (by omega))] at hQ; exact hQ _ ((row23 I _ _).trans (BFc.up _ _ (by decide))) ((hD.st (j := 2) (min 9 (D 2 + 1)) (by decide)).sc (D 6 - 1))) | (rw [show d0D D = lsD 1 (up1 (up1 D 2 (min 9 (D 2 + 1))) 6 (D 6 - 1)) from (if_pos ⟨by omega, by omega⟩).trans (if_pos (by omega))] at hQ; exact hQ _ (((row23 I _ _).trans (BFc.up _ _ (by decide))).trans (((hD.st (j := 2) (min 9 (D 2 + 1)) (by decide)).sc (D 6 - 1)).ls (by decide) o1).2) (((hD.st (j := 2) (min 9 (D 2 + 1)) (by decide)).sc (D 6 - 1)).ls (by decide) o1).1))
      · refine E_aload_n dX0_turn_60 rfl ?_
        refine E_getR dX0_turn_61 f_X0_12 rfl (Nat.lt_of_lt_of_le (by decide) hN) rfl (hR _ _ _ rfl) ?_
        refine E_ic (nI 1) dX0_turn_64 (by decide) ?_
        refine E_callV (As := [_]) (ci := 7) (kc' := 0) (ks' := 0) (kc := 0) (ks := 0) dX0_turn_65 ok_X8_loosen w_X0_111 i_X8_loosen s_X8_loosen rfl (by decide) rfl (Nat.lt_of_lt_of_le (by decide) hN) rfl rfl rfl (Nat.le_of_ble_eq_true rfl) (Nat.le_of_ble_eq_true rfl) (Nat.le_refl _) (c_State_loosen rfl (Nat.lt_of_lt_of_le (by decide) hN) ?_)
        exact E_ret dX0_turn_68 rfl (by first | (rw [show d0D D = up1 (up1 D 2 (min 9 (D 2 + 1))) 6 (D 6 - 1) from (if_pos ⟨by omega, by omega⟩).trans (if_neg (by omega))] at hQ; exact hQ _ ((row23 I _ _).trans (BFc.up _ _ (by decide))) ((hD.st (j := 2) (min 9 (D 2 + 1)) (by decide)).sc (D 6 - 1))) | (rw [show d0D D = lsD 1 (up1 (up1 D 2 (min 9 (D 2 + 1))) 6 (D 6 - 1)) from (if_pos ⟨by omega, by omega⟩).trans (if_pos (by omega))] at hQ; exact hQ _ (((row23 I _ _).trans (BFc.up _ _ (by decide))).trans (((hD.st (j := 2) (min 9 (D 2 + 1)) (by decide)).sc (D 6 - 1)).ls (by decide) o1).2) (((hD.st (j := 2) (min 9 (D 2 + 1)) (by decide)).sc (D 6 - 1)).ls (by decide) o1).1))
    · exact E_ret dX0_turn_17 rfl (by first | (rw [show d0D D = D from if_neg (fun z => by have := z.1; omega)] at hQ; exact hQ I (BFc.refl I) hD) | (rw [show d0D D = D from if_neg (fun z => by have := z.2; omega)] at hQ; exact hQ I (BFc.refl I) hD))
set_option maxRecDepth 100000 in
set_option maxHeartbeats 2000000 in
theorem x_pull (hN : 152 ≤ n) (hR : RS R) (hk : k < 12) (hq : LWF q) (hLN : LN ≤ 24) (hX : BXc k LN Y S q I R) (hO : okD LN D) (hD : BDc D I) (hQ : ∀ I2 : IM, BFc I I2 → BDc (d1D (amQ q (fcI k LN Y S D i w) 103 9) (brQ q (fcI k LN Y S D i w)) D) I2 → Q none n I2 J R) : E g mX0_pull (d + 4) 0 0 0 (ent 3 [.ref 22, .int (nI i), .int (nI w)]) [] n I J R Q := by
  have hO0 := hO
  have alm := amQ_le q (fcI k LN Y S D i w) 103 9
  have blm := brQ_le q (fcI k LN Y S D i w)
  obtain ⟨o0, o1, o2, o3, o4, o5, o6, o7, o8, o9⟩ := hO
  by_cases h4 : D 4 = 0
  · by_cases hc : (amQ q (fcI k LN Y S D i w) 103 9) ≤ D 2
    · by_cases hb : (brQ q (fcI k LN Y S D i w)) = 0
      · rw [show d1D (amQ q (fcI k LN Y S D i w) 103 9) (brQ q (fcI k LN Y S D i w)) D = opD D from (if_pos h4).trans (if_pos ⟨hc, hb⟩)] at hQ
        refine E_aload_n dX0_pull_0 rfl ?_
        refine E_getR dX0_pull_1 f_X0_12 rfl (Nat.lt_of_lt_of_le (by decide) hN) rfl (hR _ _ _ rfl) ?_
        refine E_getI dX0_pull_4 f_X0_102 rfl (Nat.lt_of_lt_of_le (by decide) hN) rfl ?_
        refine E.top (hD.2.2 4 (by decide)) ?_
        refine E_zN_eq (a := D 4) (tgt := 11) dX0_pull_7 (by omega) (by decide) (fun cw7 => ?_) (fun cw7 => absurd cw7 (by omega))
        refine E_aload_n dX0_pull_11 rfl ?_
        refine E_iload_n dX0_pull_12 rfl ?_
        refine E_iload_n dX0_pull_13 rfl ?_
        refine E_callV (As := [_, _]) (ci := 0) (kc' := 0) (ks' := 0) (kc := 0) (ks := 0) dX0_pull_14 ok_X0_learn w_X0_81 i_X0_learn s_X0_learn rfl (by decide) rfl (Nat.lt_of_lt_of_le (by decide) hN) rfl rfl rfl (Nat.le_of_ble_eq_true rfl) (Nat.le_of_ble_eq_true rfl) (Nat.le_refl _) (x_learn (i := i) (w := w) hN hR hk hq hLN hX hO0 hD (fun I2 f2 a2 => ?_))
        refine E_aload_n dX0_pull_17 rfl ?_
        refine E_getR dX0_pull_18 f_X0_12 rfl (Nat.lt_of_lt_of_le (by decide) hN) rfl (hR _ _ _ rfl) ?_
        refine E_getI dX0_pull_21 f_X0_105 rfl (Nat.lt_of_lt_of_le (by decide) hN) rfl ?_
        refine E.top ((hD.row (f2 22 (by decide)) (f2 23 (by decide))).2.2 2 (by decide)) ?_
        refine E_aload_n dX0_pull_24 rfl ?_
        refine E_getR dX0_pull_25 f_X0_28 rfl (Nat.lt_of_lt_of_le (by decide) hN) rfl hX.2.1 ?_
        refine E_bp (nI 103) dX0_pull_28 (by decide) ?_
        refine E_bp (nI 9) dX0_pull_30 (by decide) ?_
        refine E_callV (As := [_, _]) (ci := 3) (kc' := 0) (ks' := 0) (kc := 0) (ks := 0) dX0_pull_32 ok_X3_amount w_X0_87 i_X3_amount s_X3_amount rfl (by decide) rfl (Nat.lt_of_lt_of_le (by decide) hN) rfl rfl rfl (Nat.le_of_ble_eq_true rfl) (Nat.le_of_ble_eq_true rfl) (Nat.le_refl _) (x_amount (d := d + 1) (q := q) (fa := fcI k LN Y S D i w) (w := 103) (mo := 9) hN hR hq (hX.keep (BFc.row f2 (by decide))).2.2.2.2.2 a2 (by decide) (by decide) (by decide) (fun I3 f3 => ?_))
        refine E_cN_lt (a := D 2) (b := amQ q (fcI k LN Y S D i w) 103 9) (tgt := 58) dX0_pull_35 (by omega) (by omega) (by decide) (fun cw35 => absurd cw35 (by omega)) (fun cw35 => ?_)
        refine E_aload_n dX0_pull_38 rfl ?_
        refine E_getR dX0_pull_39 f_X0_28 rfl (Nat.lt_of_lt_of_le (by decide) hN) rfl hX.2.1 ?_
        refine E_callV (As := []) (ci := 3) (kc' := 0) (ks' := 0) (kc := 0) (ks := 0) dX0_pull_42 ok_X3_breaks w_X0_115 i_X3_breaks s_X3_breaks rfl (by decide) rfl (Nat.lt_of_lt_of_le (by decide) hN) rfl rfl rfl (Nat.le_of_ble_eq_true rfl) (Nat.le_of_ble_eq_true rfl) (Nat.le_refl _) (x_breaks (d := d + 1) (q := q) (fa := fcI k LN Y S D i w) hN hR hq (hX.keep ((BFc.row f2 (by decide)).trans (BFc.row f3 (by decide)))).2.2.2.2.2 (fun j hj => (congrFun (f3 9 (by decide)) j).trans (a2 j hj)) (fun I4 f4 => ?_))
        refine E_zN_ne (a := brQ q (fcI k LN Y S D i w)) (tgt := 58) dX0_pull_45 (by omega) (by decide) (fun cw45 => absurd cw45 (by omega)) (fun cw45 => ?_)
        refine E_aload_n dX0_pull_48 rfl ?_
        refine E_getR dX0_pull_49 f_X0_12 rfl (Nat.lt_of_lt_of_le (by decide) hN) rfl (hR _ _ _ rfl) ?_
        refine E_callV (As := []) (ci := 7) (kc' := 0) (ks' := 0) (kc := 0) (ks := 0) dX0_pull_52 ok_X8_opens w_X0_119 i_X8_opens s_X8_opens rfl (by decide) rfl (Nat.lt_of_lt_of_le (by decide) hN) rfl rfl rfl (Nat.le_of_ble_eq_true rfl) (Nat.le_of_ble_eq_true rfl) (Nat.le_refl _) (c_State_opens rfl (Nat.lt_of_lt_of_le (by decide) hN) ?_)
        refine E_goto (tgt := 66) dX0_pull_55 (by decide) ?_
        exact E_ret dX0_pull_66 rfl (hQ _ ((((BFc.row f2 (by decide)).trans (BFc.row f3 (by decide))).trans (BFc.row f4 (by decide))).trans ((row23 _ _ _).trans (row23 _ _ _))) (((((hD.row (f2 22 (by decide)) (f2 23 (by decide))).row (f3 22 (by decide)) (f3 23 (by decide))).row (f4 22 (by decide)) (f4 23 (by decide))).st (j := 4) 1 (by decide)).st (j := 2) 0 (by decide)))
      · rw [show d1D (amQ q (fcI k LN Y S D i w) 103 9) (brQ q (fcI k LN Y S D i w)) D = lsD 2 D from (if_pos h4).trans (if_neg (fun z => hb z.2))] at hQ
        refine E_aload_n dX0_pull_0 rfl ?_
        refine E_getR dX0_pull_1 f_X0_12 rfl (Nat.lt_of_lt_of_le (by decide) hN) rfl (hR _ _ _ rfl) ?_
        refine E_getI dX0_pull_4 f_X0_102 rfl (Nat.lt_of_lt_of_le (by decide) hN) rfl ?_
        refine E.top (hD.2.2 4 (by decide)) ?_
        refine E_zN_eq (a := D 4) (tgt := 11) dX0_pull_7 (by omega) (by decide) (fun cw7 => ?_) (fun cw7 => absurd cw7 (by omega))
        refine E_aload_n dX0_pull_11 rfl ?_
        refine E_iload_n dX0_pull_12 rfl ?_
        refine E_iload_n dX0_pull_13 rfl ?_
        refine E_callV (As := [_, _]) (ci := 0) (kc' := 0) (ks' := 0) (kc := 0) (ks := 0) dX0_pull_14 ok_X0_learn w_X0_81 i_X0_learn s_X0_learn rfl (by decide) rfl (Nat.lt_of_lt_of_le (by decide) hN) rfl rfl rfl (Nat.le_of_ble_eq_true rfl) (Nat.le_of_ble_eq_true rfl) (Nat.le_refl _) (x_learn (i := i) (w := w) hN hR hk hq hLN hX hO0 hD (fun I2 f2 a2 => ?_))
        refine E_aload_n dX0_pull_17 rfl ?_
        refine E_getR dX0_pull_18 f_X0_12 rfl (Nat.lt_of_lt_of_le (by decide) hN) rfl (hR _ _ _ rfl) ?_
        refine E_getI dX0_pull_21 f_X0_105 rfl (Nat.lt_of_lt_of_le (by decide) hN) rfl ?_
        refine E.top ((hD.row (f2 22 (by decide)) (f2 23 (by decide))).2.2 2 (by decide)) ?_
        refine E_aload_n dX0_pull_24 rfl ?_
        refine E_getR dX0_pull_25 f_X0_28 rfl (Nat.lt_of_lt_of_le (by decide) hN) rfl hX.2.1 ?_
        refine E_bp (nI 103) dX0_pull_28 (by decide) ?_
        refine E_bp (nI 9) dX0_pull_30 (by decide) ?_
        refine E_callV (As := [_, _]) (ci := 3) (kc' := 0) (ks' := 0) (kc := 0) (ks := 0) dX0_pull_32 ok_X3_amount w_X0_87 i_X3_amount s_X3_amount rfl (by decide) rfl (Nat.lt_of_lt_of_le (by decide) hN) rfl rfl rfl (Nat.le_of_ble_eq_true rfl) (Nat.le_of_ble_eq_true rfl) (Nat.le_refl _) (x_amount (d := d + 1) (q := q) (fa := fcI k LN Y S D i w) (w := 103) (mo := 9) hN hR hq (hX.keep (BFc.row f2 (by decide))).2.2.2.2.2 a2 (by decide) (by decide) (by decide) (fun I3 f3 => ?_))
        refine E_cN_lt (a := D 2) (b := amQ q (fcI k LN Y S D i w) 103 9) (tgt := 58) dX0_pull_35 (by omega) (by omega) (by decide) (fun cw35 => absurd cw35 (by omega)) (fun cw35 => ?_)
        refine E_aload_n dX0_pull_38 rfl ?_
        refine E_getR dX0_pull_39 f_X0_28 rfl (Nat.lt_of_lt_of_le (by decide) hN) rfl hX.2.1 ?_
        refine E_callV (As := []) (ci := 3) (kc' := 0) (ks' := 0) (kc := 0) (ks := 0) dX0_pull_42 ok_X3_breaks w_X0_115 i_X3_breaks s_X3_breaks rfl (by decide) rfl (Nat.lt_of_lt_of_le (by decide) hN) rfl rfl rfl (Nat.le_of_ble_eq_true rfl) (Nat.le_of_ble_eq_true rfl) (Nat.le_refl _) (x_breaks (d := d + 1) (q := q) (fa := fcI k LN Y S D i w) hN hR hq (hX.keep ((BFc.row f2 (by decide)).trans (BFc.row f3 (by decide)))).2.2.2.2.2 (fun j hj => (congrFun (f3 9 (by decide)) j).trans (a2 j hj)) (fun I4 f4 => ?_))
        refine E_zN_ne (a := brQ q (fcI k LN Y S D i w)) (tgt := 58) dX0_pull_45 (by omega) (by decide) (fun cw45 => ?_) (fun cw45 => absurd cw45 (by omega))
        refine E_aload_n dX0_pull_58 rfl ?_
        refine E_getR dX0_pull_59 f_X0_12 rfl (Nat.lt_of_lt_of_le (by decide) hN) rfl (hR _ _ _ rfl) ?_
        refine E_ic (nI 2) dX0_pull_62 (by decide) ?_
        refine E_callV (As := [_]) (ci := 7) (kc' := 0) (ks' := 0) (kc := 0) (ks := 0) dX0_pull_63 ok_X8_loosen w_X0_111 i_X8_loosen s_X8_loosen rfl (by decide) rfl (Nat.lt_of_lt_of_le (by decide) hN) rfl rfl rfl (Nat.le_of_ble_eq_true rfl) (Nat.le_of_ble_eq_true rfl) (Nat.le_refl _) (c_State_loosen rfl (Nat.lt_of_lt_of_le (by decide) hN) ?_)
        exact E_ret dX0_pull_66 rfl (hQ _ ((((BFc.row f2 (by decide)).trans (BFc.row f3 (by decide))).trans (BFc.row f4 (by decide))).trans ((((hD.row (f2 22 (by decide)) (f2 23 (by decide))).row (f3 22 (by decide)) (f3 23 (by decide))).row (f4 22 (by decide)) (f4 23 (by decide))).ls (by decide) o1).2) ((((hD.row (f2 22 (by decide)) (f2 23 (by decide))).row (f3 22 (by decide)) (f3 23 (by decide))).row (f4 22 (by decide)) (f4 23 (by decide))).ls (by decide) o1).1)
    · rw [show d1D (amQ q (fcI k LN Y S D i w) 103 9) (brQ q (fcI k LN Y S D i w)) D = lsD 2 D from (if_pos h4).trans (if_neg (fun z => hc z.1))] at hQ
      refine E_aload_n dX0_pull_0 rfl ?_
      refine E_getR dX0_pull_1 f_X0_12 rfl (Nat.lt_of_lt_of_le (by decide) hN) rfl (hR _ _ _ rfl) ?_
      refine E_getI dX0_pull_4 f_X0_102 rfl (Nat.lt_of_lt_of_le (by decide) hN) rfl ?_
      refine E.top (hD.2.2 4 (by decide)) ?_
      refine E_zN_eq (a := D 4) (tgt := 11) dX0_pull_7 (by omega) (by decide) (fun cw7 => ?_) (fun cw7 => absurd cw7 (by omega))
      refine E_aload_n dX0_pull_11 rfl ?_
      refine E_iload_n dX0_pull_12 rfl ?_
      refine E_iload_n dX0_pull_13 rfl ?_
      refine E_callV (As := [_, _]) (ci := 0) (kc' := 0) (ks' := 0) (kc := 0) (ks := 0) dX0_pull_14 ok_X0_learn w_X0_81 i_X0_learn s_X0_learn rfl (by decide) rfl (Nat.lt_of_lt_of_le (by decide) hN) rfl rfl rfl (Nat.le_of_ble_eq_true rfl) (Nat.le_of_ble_eq_true rfl) (Nat.le_refl _) (x_learn (i := i) (w := w) hN hR hk hq hLN hX hO0 hD (fun I2 f2 a2 => ?_))
      refine E_aload_n dX0_pull_17 rfl ?_
      refine E_getR dX0_pull_18 f_X0_12 rfl (Nat.lt_of_lt_of_le (by decide) hN) rfl (hR _ _ _ rfl) ?_
      refine E_getI dX0_pull_21 f_X0_105 rfl (Nat.lt_of_lt_of_le (by decide) hN) rfl ?_
      refine E.top ((hD.row (f2 22 (by decide)) (f2 23 (by decide))).2.2 2 (by decide)) ?_
      refine E_aload_n dX0_pull_24 rfl ?_
      refine E_getR dX0_pull_25 f_X0_28 rfl (Nat.lt_of_lt_of_le (by decide) hN) rfl hX.2.1 ?_
      refine E_bp (nI 103) dX0_pull_28 (by decide) ?_
      refine E_bp (nI 9) dX0_pull_30 (by decide) ?_
      refine E_callV (As := [_, _]) (ci := 3) (kc' := 0) (ks' := 0) (kc := 0) (ks := 0) dX0_pull_32 ok_X3_amount w_X0_87 i_X3_amount s_X3_amount rfl (by decide) rfl (Nat.lt_of_lt_of_le (by decide) hN) rfl rfl rfl (Nat.le_of_ble_eq_true rfl) (Nat.le_of_ble_eq_true rfl) (Nat.le_refl _) (x_amount (d := d + 1) (q := q) (fa := fcI k LN Y S D i w) (w := 103) (mo := 9) hN hR hq (hX.keep (BFc.row f2 (by decide))).2.2.2.2.2 a2 (by decide) (by decide) (by decide) (fun I3 f3 => ?_))
      refine E_cN_lt (a := D 2) (b := amQ q (fcI k LN Y S D i w) 103 9) (tgt := 58) dX0_pull_35 (by omega) (by omega) (by decide) (fun cw35 => ?_) (fun cw35 => absurd cw35 (by omega))
      refine E_aload_n dX0_pull_58 rfl ?_
      refine E_getR dX0_pull_59 f_X0_12 rfl (Nat.lt_of_lt_of_le (by decide) hN) rfl (hR _ _ _ rfl) ?_
      refine E_ic (nI 2) dX0_pull_62 (by decide) ?_
      refine E_callV (As := [_]) (ci := 7) (kc' := 0) (ks' := 0) (kc := 0) (ks := 0) dX0_pull_63 ok_X8_loosen w_X0_111 i_X8_loosen s_X8_loosen rfl (by decide) rfl (Nat.lt_of_lt_of_le (by decide) hN) rfl rfl rfl (Nat.le_of_ble_eq_true rfl) (Nat.le_of_ble_eq_true rfl) (Nat.le_refl _) (c_State_loosen rfl (Nat.lt_of_lt_of_le (by decide) hN) ?_)
      exact E_ret dX0_pull_66 rfl (hQ _ (((BFc.row f2 (by decide)).trans (BFc.row f3 (by decide))).trans (((hD.row (f2 22 (by decide)) (f2 23 (by decide))).row (f3 22 (by decide)) (f3 23 (by decide))).ls (by decide) o1).2) (((hD.row (f2 22 (by decide)) (f2 23 (by decide))).row (f3 22 (by decide)) (f3 23 (by decide))).ls (by decide) o1).1)
  · rw [show d1D (amQ q (fcI k LN Y S D i w) 103 9) (brQ q (fcI k LN Y S D i w)) D = D from if_neg h4] at hQ
    refine E_aload_n dX0_pull_0 rfl ?_
    refine E_getR dX0_pull_1 f_X0_12 rfl (Nat.lt_of_lt_of_le (by decide) hN) rfl (hR _ _ _ rfl) ?_
    refine E_getI dX0_pull_4 f_X0_102 rfl (Nat.lt_of_lt_of_le (by decide) hN) rfl ?_
    refine E.top (hD.2.2 4 (by decide)) ?_
    refine E_zN_eq (a := D 4) (tgt := 11) dX0_pull_7 (by omega) (by decide) (fun cw7 => absurd cw7 (by omega)) (fun cw7 => ?_)
    exact E_ret dX0_pull_10 rfl (hQ I (BFc.refl I) hD)
set_option maxRecDepth 100000 in
set_option maxHeartbeats 2000000 in
theorem x_shake (hN : 152 ≤ n) (hR : RS R) (hk : k < 12) (hq : LWF q) (hLN : LN ≤ 24) (hX : BXc k LN Y S q I R) (hO : okD LN D) (hD : BDc D I) (hQ : ∀ I2 : IM, BFc I I2 → BDc (d2D LN (amQ q (fcI k LN Y S D i w) 102 19) D) I2 → Q none n I2 J R) : E g mX0_shake (d + 4) 0 0 0 (ent 3 [.ref 22, .int (nI i), .int (nI w)]) [] n I J R Q := by
  have hO0 := hO
  have alm := amQ_le q (fcI k LN Y S D i w) 102 19
  obtain ⟨o0, o1, o2, o3, o4, o5, o6, o7, o8, o9⟩ := hO
  by_cases h4 : D 4 = 0
  · by_cases hz : min 19 (D 0 + amQ q (fcI k LN Y S D i w) 102 19) = 19
    · rw [show d2D LN (amQ q (fcI k LN Y S D i w) 102 19) D = cmD LN 1 (opD (up1 D 0 (min 19 (D 0 + amQ q (fcI k LN Y S D i w) 102 19)))) from if_pos ⟨h4, hz⟩] at hQ
      refine E_aload_n dX0_shake_0 rfl ?_
      refine E_iload_n dX0_shake_1 rfl ?_
      refine E_iload_n dX0_shake_2 rfl ?_
      refine E_callV (As := [_, _]) (ci := 0) (kc' := 0) (ks' := 0) (kc := 0) (ks := 0) dX0_shake_3 ok_X0_learn w_X0_81 i_X0_learn s_X0_learn rfl (by decide) rfl (Nat.lt_of_lt_of_le (by decide) hN) rfl rfl rfl (Nat.le_of_ble_eq_true rfl) (Nat.le_of_ble_eq_true rfl) (Nat.le_refl _) (x_learn (i := i) (w := w) hN hR hk hq hLN hX hO0 hD (fun I2 f2 a2 => ?_))
      refine E_aload_n dX0_shake_6 rfl ?_
      refine E_getR dX0_shake_7 f_X0_12 rfl (Nat.lt_of_lt_of_le (by decide) hN) rfl (hR _ _ _ rfl) ?_
      refine E_bp (nI 19) dX0_shake_10 (by decide) ?_
      refine E_aload_n dX0_shake_12 rfl ?_
      refine E_getR dX0_shake_13 f_X0_12 rfl (Nat.lt_of_lt_of_le (by decide) hN) rfl (hR _ _ _ rfl) ?_
      refine E_getI dX0_shake_16 f_X0_84 rfl (Nat.lt_of_lt_of_le (by decide) hN) rfl ?_
      refine E.top ((hD.row (f2 22 (by decide)) (f2 23 (by decide))).2.2 0 (by decide)) ?_
      refine E_aload_n dX0_shake_19 rfl ?_
      refine E_getR dX0_shake_20 f_X0_28 rfl (Nat.lt_of_lt_of_le (by decide) hN) rfl hX.2.1 ?_
      refine E_bp (nI 102) dX0_shake_23 (by decide) ?_
      refine E_bp (nI 19) dX0_shake_25 (by decide) ?_
      refine E_callV (As := [_, _]) (ci := 3) (kc' := 0) (ks' := 0) (kc := 0) (ks := 0) dX0_shake_27 ok_X3_amount w_X0_87 i_X3_amount s_X3_amount rfl (by decide) rfl (Nat.lt_of_lt_of_le (by decide) hN) rfl rfl rfl (Nat.le_of_ble_eq_true rfl) (Nat.le_of_ble_eq_true rfl) (Nat.le_refl _) (x_amount (d := d + 1) (q := q) (fa := fcI k LN Y S D i w) (w := 102) (mo := 19) hN hR hq (hX.keep (BFc.row f2 (by decide))).2.2.2.2.2 a2 (by decide) (by decide) (by decide) (fun I3 f3 => ?_))
      refine E_iadd dX0_shake_30 ?_
      refine E.top (nI_add (D 0) (amQ q (fcI k LN Y S D i w) 102 19)) ?_
      refine E_mmin dX0_shake_31 w_X0_108 (Nat.le_of_ble_eq_true rfl) (by omega) ?_
      refine E.top (nI_min 19 ((D 0) + (amQ q (fcI k LN Y S D i w) 102 19)) (by omega) (by omega)) ?_
      refine E_putI dX0_shake_34 f_X0_84 rfl (Nat.lt_of_lt_of_le (by decide) hN) rfl ?_
      refine E_aload_n dX0_shake_37 rfl ?_
      refine E_getR dX0_shake_38 f_X0_12 rfl (Nat.lt_of_lt_of_le (by decide) hN) rfl (hR _ _ _ rfl) ?_
      refine E_getI dX0_shake_41 f_X0_102 rfl (Nat.lt_of_lt_of_le (by decide) hN) rfl ?_
      refine E.top ((((hD.row (f2 22 (by decide)) (f2 23 (by decide))).row (f3 22 (by decide)) (f3 23 (by decide))).st (j := 0) (min 19 (D 0 + amQ q (fcI k LN Y S D i w) 102 19)) (by decide)).2.2 4 (by decide)) ?_
      refine E_zN_ne (a := D 4) (tgt := 72) dX0_shake_44 (by omega) (by decide) (fun cw44 => absurd cw44 (by omega)) (fun cw44 => ?_)
      refine E_aload_n dX0_shake_47 rfl ?_
      refine E_getR dX0_shake_48 f_X0_12 rfl (Nat.lt_of_lt_of_le (by decide) hN) rfl (hR _ _ _ rfl) ?_
      refine E_getI dX0_shake_51 f_X0_84 rfl (Nat.lt_of_lt_of_le (by decide) hN) rfl ?_
      refine E.top ((((hD.row (f2 22 (by decide)) (f2 23 (by decide))).row (f3 22 (by decide)) (f3 23 (by decide))).st (j := 0) (min 19 (D 0 + amQ q (fcI k LN Y S D i w) 102 19)) (by decide)).2.2 0 (by decide)) ?_
      refine E_bp (nI 19) dX0_shake_54 (by decide) ?_
      refine E_cN_ne (a := min 19 (D 0 + amQ q (fcI k LN Y S D i w) 102 19)) (b := 19) (tgt := 72) dX0_shake_56 (by omega) (by decide) (by decide) (fun cw56 => absurd cw56 (by omega)) (fun cw56 => ?_)
      refine E_aload_n dX0_shake_59 rfl ?_
      refine E_getR dX0_shake_60 f_X0_12 rfl (Nat.lt_of_lt_of_le (by decide) hN) rfl (hR _ _ _ rfl) ?_
      refine E_callV (As := []) (ci := 7) (kc' := 0) (ks' := 0) (kc := 0) (ks := 0) dX0_shake_63 ok_X8_opens w_X0_119 i_X8_opens s_X8_opens rfl (by decide) rfl (Nat.lt_of_lt_of_le (by decide) hN) rfl rfl rfl (Nat.le_of_ble_eq_true rfl) (Nat.le_of_ble_eq_true rfl) (Nat.le_refl _) (c_State_opens rfl (Nat.lt_of_lt_of_le (by decide) hN) ?_)
      refine E_aload_n dX0_shake_66 rfl ?_
      refine E_ic (nI 1) dX0_shake_67 (by decide) ?_
      refine E_callV (As := [_]) (ci := 0) (kc' := 0) (ks' := 0) (kc := 0) (ks := 0) dX0_shake_68 ok_X0_come w_X0_122 i_X0_come s_X0_come rfl (by decide) rfl (Nat.lt_of_lt_of_le (by decide) hN) rfl rfl rfl (Nat.le_of_ble_eq_true rfl) (Nat.le_of_ble_eq_true rfl) (Nat.le_refl _) (x_come (d := d + 2) (m := 1) (D := opD (up1 D 0 (min 19 (D 0 + amQ q (fcI k LN Y S D i w) 102 19)))) hN hR hk hq hLN (hX.keep ((((BFc.row f2 (by decide)).trans (BFc.row f3 (by decide))).trans (row23 _ 0 (nI (min 19 (D 0 + amQ q (fcI k LN Y S D i w) 102 19))))).trans ((row23 _ _ _).trans (row23 _ _ _)))) (opD_ok (fzD_ok hO0 (by omega))) (((((hD.row (f2 22 (by decide)) (f2 23 (by decide))).row (f3 22 (by decide)) (f3 23 (by decide))).st (j := 0) (min 19 (D 0 + amQ q (fcI k LN Y S D i w) 102 19)) (by decide)).st (j := 4) 1 (by decide)).st (j := 2) 0 (by decide)) (by decide) (fun I5 f5 d5 => ?_))
      refine E_pop dX0_shake_71 rfl ?_
      exact E_ret dX0_shake_72 rfl (hQ I5 ((((BFc.row f2 (by decide)).trans (BFc.row f3 (by decide))).trans (row23 _ 0 (nI (min 19 (D 0 + amQ q (fcI k LN Y S D i w) 102 19))))).trans (((row23 _ _ _).trans (row23 _ _ _)).trans f5)) d5)
    · rw [show d2D LN (amQ q (fcI k LN Y S D i w) 102 19) D = up1 D 0 (min 19 (D 0 + amQ q (fcI k LN Y S D i w) 102 19)) from if_neg (fun z => hz z.2)] at hQ
      refine E_aload_n dX0_shake_0 rfl ?_
      refine E_iload_n dX0_shake_1 rfl ?_
      refine E_iload_n dX0_shake_2 rfl ?_
      refine E_callV (As := [_, _]) (ci := 0) (kc' := 0) (ks' := 0) (kc := 0) (ks := 0) dX0_shake_3 ok_X0_learn w_X0_81 i_X0_learn s_X0_learn rfl (by decide) rfl (Nat.lt_of_lt_of_le (by decide) hN) rfl rfl rfl (Nat.le_of_ble_eq_true rfl) (Nat.le_of_ble_eq_true rfl) (Nat.le_refl _) (x_learn (i := i) (w := w) hN hR hk hq hLN hX hO0 hD (fun I2 f2 a2 => ?_))
      refine E_aload_n dX0_shake_6 rfl ?_
      refine E_getR dX0_shake_7 f_X0_12 rfl (Nat.lt_of_lt_of_le (by decide) hN) rfl (hR _ _ _ rfl) ?_
      refine E_bp (nI 19) dX0_shake_10 (by decide) ?_
      refine E_aload_n dX0_shake_12 rfl ?_
      refine E_getR dX0_shake_13 f_X0_12 rfl (Nat.lt_of_lt_of_le (by decide) hN) rfl (hR _ _ _ rfl) ?_
      refine E_getI dX0_shake_16 f_X0_84 rfl (Nat.lt_of_lt_of_le (by decide) hN) rfl ?_
      refine E.top ((hD.row (f2 22 (by decide)) (f2 23 (by decide))).2.2 0 (by decide)) ?_
      refine E_aload_n dX0_shake_19 rfl ?_
      refine E_getR dX0_shake_20 f_X0_28 rfl (Nat.lt_of_lt_of_le (by decide) hN) rfl hX.2.1 ?_
      refine E_bp (nI 102) dX0_shake_23 (by decide) ?_
      refine E_bp (nI 19) dX0_shake_25 (by decide) ?_
      refine E_callV (As := [_, _]) (ci := 3) (kc' := 0) (ks' := 0) (kc := 0) (ks := 0) dX0_shake_27 ok_X3_amount w_X0_87 i_X3_amount s_X3_amount rfl (by decide) rfl (Nat.lt_of_lt_of_le (by decide) hN) rfl rfl rfl (Nat.le_of_ble_eq_true rfl) (Nat.le_of_ble_eq_true rfl) (Nat.le_refl _) (x_amount (d := d + 1) (q := q) (fa := fcI k LN Y S D i w) (w := 102) (mo := 19) hN hR hq (hX.keep (BFc.row f2 (by decide))).2.2.2.2.2 a2 (by decide) (by decide) (by decide) (fun I3 f3 => ?_))
      refine E_iadd dX0_shake_30 ?_
      refine E.top (nI_add (D 0) (amQ q (fcI k LN Y S D i w) 102 19)) ?_
      refine E_mmin dX0_shake_31 w_X0_108 (Nat.le_of_ble_eq_true rfl) (by omega) ?_
      refine E.top (nI_min 19 ((D 0) + (amQ q (fcI k LN Y S D i w) 102 19)) (by omega) (by omega)) ?_
      refine E_putI dX0_shake_34 f_X0_84 rfl (Nat.lt_of_lt_of_le (by decide) hN) rfl ?_
      refine E_aload_n dX0_shake_37 rfl ?_
      refine E_getR dX0_shake_38 f_X0_12 rfl (Nat.lt_of_lt_of_le (by decide) hN) rfl (hR _ _ _ rfl) ?_
      refine E_getI dX0_shake_41 f_X0_102 rfl (Nat.lt_of_lt_of_le (by decide) hN) rfl ?_
      refine E.top ((((hD.row (f2 22 (by decide)) (f2 23 (by decide))).row (f3 22 (by decide)) (f3 23 (by decide))).st (j := 0) (min 19 (D 0 + amQ q (fcI k LN Y S D i w) 102 19)) (by decide)).2.2 4 (by decide)) ?_
      refine E_zN_ne (a := D 4) (tgt := 72) dX0_shake_44 (by omega) (by decide) (fun cw44 => absurd cw44 (by omega)) (fun cw44 => ?_)
      refine E_aload_n dX0_shake_47 rfl ?_
      refine E_getR dX0_shake_48 f_X0_12 rfl (Nat.lt_of_lt_of_le (by decide) hN) rfl (hR _ _ _ rfl) ?_
      refine E_getI dX0_shake_51 f_X0_84 rfl (Nat.lt_of_lt_of_le (by decide) hN) rfl ?_
      refine E.top ((((hD.row (f2 22 (by decide)) (f2 23 (by decide))).row (f3 22 (by decide)) (f3 23 (by decide))).st (j := 0) (min 19 (D 0 + amQ q (fcI k LN Y S D i w) 102 19)) (by decide)).2.2 0 (by decide)) ?_
      refine E_bp (nI 19) dX0_shake_54 (by decide) ?_
      refine E_cN_ne (a := min 19 (D 0 + amQ q (fcI k LN Y S D i w) 102 19)) (b := 19) (tgt := 72) dX0_shake_56 (by omega) (by decide) (by decide) (fun cw56 => ?_) (fun cw56 => absurd cw56 (by omega))
      exact E_ret dX0_shake_72 rfl (hQ _ (((BFc.row f2 (by decide)).trans (BFc.row f3 (by decide))).trans (row23 _ 0 (nI (min 19 (D 0 + amQ q (fcI k LN Y S D i w) 102 19))))) (((hD.row (f2 22 (by decide)) (f2 23 (by decide))).row (f3 22 (by decide)) (f3 23 (by decide))).st (j := 0) (min 19 (D 0 + amQ q (fcI k LN Y S D i w) 102 19)) (by decide)))
  · rw [show d2D LN (amQ q (fcI k LN Y S D i w) 102 19) D = up1 D 0 (min 19 (D 0 + amQ q (fcI k LN Y S D i w) 102 19)) from if_neg (fun z => h4 z.1)] at hQ
    refine E_aload_n dX0_shake_0 rfl ?_
    refine E_iload_n dX0_shake_1 rfl ?_
    refine E_iload_n dX0_shake_2 rfl ?_
    refine E_callV (As := [_, _]) (ci := 0) (kc' := 0) (ks' := 0) (kc := 0) (ks := 0) dX0_shake_3 ok_X0_learn w_X0_81 i_X0_learn s_X0_learn rfl (by decide) rfl (Nat.lt_of_lt_of_le (by decide) hN) rfl rfl rfl (Nat.le_of_ble_eq_true rfl) (Nat.le_of_ble_eq_true rfl) (Nat.le_refl _) (x_learn (i := i) (w := w) hN hR hk hq hLN hX hO0 hD (fun I2 f2 a2 => ?_))
    refine E_aload_n dX0_shake_6 rfl ?_
    refine E_getR dX0_shake_7 f_X0_12 rfl (Nat.lt_of_lt_of_le (by decide) hN) rfl (hR _ _ _ rfl) ?_
    refine E_bp (nI 19) dX0_shake_10 (by decide) ?_
    refine E_aload_n dX0_shake_12 rfl ?_
    refine E_getR dX0_shake_13 f_X0_12 rfl (Nat.lt_of_lt_of_le (by decide) hN) rfl (hR _ _ _ rfl) ?_
    refine E_getI dX0_shake_16 f_X0_84 rfl (Nat.lt_of_lt_of_le (by decide) hN) rfl ?_
    refine E.top ((hD.row (f2 22 (by decide)) (f2 23 (by decide))).2.2 0 (by decide)) ?_
    refine E_aload_n dX0_shake_19 rfl ?_
    refine E_getR dX0_shake_20 f_X0_28 rfl (Nat.lt_of_lt_of_le (by decide) hN) rfl hX.2.1 ?_
    refine E_bp (nI 102) dX0_shake_23 (by decide) ?_
    refine E_bp (nI 19) dX0_shake_25 (by decide) ?_
    refine E_callV (As := [_, _]) (ci := 3) (kc' := 0) (ks' := 0) (kc := 0) (ks := 0) dX0_shake_27 ok_X3_amount w_X0_87 i_X3_amount s_X3_amount rfl (by decide) rfl (Nat.lt_of_lt_of_le (by decide) hN) rfl rfl rfl (Nat.le_of_ble_eq_true rfl) (Nat.le_of_ble_eq_true rfl) (Nat.le_refl _) (x_amount (d := d + 1) (q := q) (fa := fcI k LN Y S D i w) (w := 102) (mo := 19) hN hR hq (hX.keep (BFc.row f2 (by decide))).2.2.2.2.2 a2 (by decide) (by decide) (by decide) (fun I3 f3 => ?_))
    refine E_iadd dX0_shake_30 ?_
    refine E.top (nI_add (D 0) (amQ q (fcI k LN Y S D i w) 102 19)) ?_
    refine E_mmin dX0_shake_31 w_X0_108 (Nat.le_of_ble_eq_true rfl) (by omega) ?_
    refine E.top (nI_min 19 ((D 0) + (amQ q (fcI k LN Y S D i w) 102 19)) (by omega) (by omega)) ?_
    refine E_putI dX0_shake_34 f_X0_84 rfl (Nat.lt_of_lt_of_le (by decide) hN) rfl ?_
    refine E_aload_n dX0_shake_37 rfl ?_
    refine E_getR dX0_shake_38 f_X0_12 rfl (Nat.lt_of_lt_of_le (by decide) hN) rfl (hR _ _ _ rfl) ?_
    refine E_getI dX0_shake_41 f_X0_102 rfl (Nat.lt_of_lt_of_le (by decide) hN) rfl ?_
    refine E.top ((((hD.row (f2 22 (by decide)) (f2 23 (by decide))).row (f3 22 (by decide)) (f3 23 (by decide))).st (j := 0) (min 19 (D 0 + amQ q (fcI k LN Y S D i w) 102 19)) (by decide)).2.2 4 (by decide)) ?_
    refine E_zN_ne (a := D 4) (tgt := 72) dX0_shake_44 (by omega) (by decide) (fun cw44 => ?_) (fun cw44 => absurd cw44 (by omega))
    exact E_ret dX0_shake_72 rfl (hQ _ (((BFc.row f2 (by decide)).trans (BFc.row f3 (by decide))).trans (row23 _ 0 (nI (min 19 (D 0 + amQ q (fcI k LN Y S D i w) 102 19))))) (((hD.row (f2 22 (by decide)) (f2 23 (by decide))).row (f3 22 (by decide)) (f3 23 (by decide))).st (j := 0) (min 19 (D 0 + amQ q (fcI k LN Y S D i w) 102 19)) (by decide)))
theorem mx_sub {a b : Nat} (ha : a < 2 ^ 30) (hb : b < 2 ^ 30) : imax (nI 0) (nI a - nI b) = nI (a - b) := by
  by_cases h : b ≤ a
  · rw [pk_sub h, nI_max _ _ (by decide) (by omega), show max 0 (a - b) = a - b by omega]
  · unfold imax
    rw [if_neg (show ¬ nI 0 < nI a - nI b from Int32.not_lt.mpr (Int32.le_of_lt (pk_sneg hb (by omega)))), show a - b = 0 by omega]
set_option maxRecDepth 100000 in
set_option maxHeartbeats 2000000 in
theorem x_pour (hN : 152 ≤ n) (hR : RS R) (hk : k < 12) (hq : LWF q) (hLN : LN ≤ 24) (hX : BXc k LN Y S q I R) (hO : okD LN D) (hD : BDc D I) (hQ : ∀ I2 : IM, BFc I I2 → BDc (d4D LN (amQ q (fcI k LN Y S D i w) 100 9) D) I2 → Q none n I2 J R) : E g mX0_pour (d + 4) 0 0 0 (ent 4 [.ref 22, .int (nI i), .int (nI w)]) [] n I J R Q := by
  have hO0 := hO
  have alm := amQ_le q (fcI k LN Y S D i w) 100 9
  obtain ⟨o0, o1, o2, o3, o4, o5, o6, o7, o8, o9⟩ := hO
  by_cases h4 : D 4 = 0
  · rw [show d4D LN (amQ q (fcI k LN Y S D i w) 100 9) D = D from if_pos h4] at hQ
    refine E_aload_n dX0_pour_0 rfl ?_
    refine E_getR dX0_pour_1 f_X0_12 rfl (Nat.lt_of_lt_of_le (by decide) hN) rfl (hR _ _ _ rfl) ?_
    refine E_getI dX0_pour_4 f_X0_102 rfl (Nat.lt_of_lt_of_le (by decide) hN) rfl ?_
    refine E.top (hD.2.2 4 (by decide)) ?_
    refine E_zN_eq (a := D 4) (tgt := 52) dX0_pour_7 (by omega) (by decide) (fun cw7 => ?_) (fun cw7 => absurd cw7 (by omega))
    exact E_ret dX0_pour_52 rfl (hQ I (BFc.refl I) hD)
  · rw [show d4D LN (amQ q (fcI k LN Y S D i w) 100 9) D = up1 (cmD LN (amQ q (fcI k LN Y S D i w) 100 9) D) 0 (D 0 - min (amQ q (fcI k LN Y S D i w) 100 9) (LN - D 3)) from if_neg h4] at hQ
    refine E_aload_n dX0_pour_0 rfl ?_
    refine E_getR dX0_pour_1 f_X0_12 rfl (Nat.lt_of_lt_of_le (by decide) hN) rfl (hR _ _ _ rfl) ?_
    refine E_getI dX0_pour_4 f_X0_102 rfl (Nat.lt_of_lt_of_le (by decide) hN) rfl ?_
    refine E.top (hD.2.2 4 (by decide)) ?_
    refine E_zN_eq (a := D 4) (tgt := 52) dX0_pour_7 (by omega) (by decide) (fun cw7 => absurd cw7 (by omega)) (fun cw7 => ?_)
    refine E_aload_n dX0_pour_10 rfl ?_
    refine E_iload_n dX0_pour_11 rfl ?_
    refine E_iload_n dX0_pour_12 rfl ?_
    refine E_callV (As := [_, _]) (ci := 0) (kc' := 0) (ks' := 0) (kc := 0) (ks := 0) dX0_pour_13 ok_X0_learn w_X0_81 i_X0_learn s_X0_learn rfl (by decide) rfl (Nat.lt_of_lt_of_le (by decide) hN) rfl rfl rfl (Nat.le_of_ble_eq_true rfl) (Nat.le_of_ble_eq_true rfl) (Nat.le_refl _) (x_learn (i := i) (w := w) hN hR hk hq hLN hX hO0 hD (fun I2 f2 a2 => ?_))
    refine E_aload_n dX0_pour_16 rfl ?_
    refine E_aload_n dX0_pour_17 rfl ?_
    refine E_getR dX0_pour_18 f_X0_28 rfl (Nat.lt_of_lt_of_le (by decide) hN) rfl hX.2.1 ?_
    refine E_bp (nI 100) dX0_pour_21 (by decide) ?_
    refine E_bp (nI 9) dX0_pour_23 (by decide) ?_
    refine E_callV (As := [_, _]) (ci := 3) (kc' := 0) (ks' := 0) (kc := 0) (ks := 0) dX0_pour_25 ok_X3_amount w_X0_87 i_X3_amount s_X3_amount rfl (by decide) rfl (Nat.lt_of_lt_of_le (by decide) hN) rfl rfl rfl (Nat.le_of_ble_eq_true rfl) (Nat.le_of_ble_eq_true rfl) (Nat.le_refl _) (x_amount (d := d + 1) (q := q) (fa := fcI k LN Y S D i w) (w := 100) (mo := 9) hN hR hq (hX.keep (BFc.row f2 (by decide))).2.2.2.2.2 a2 (by decide) (by decide) (by decide) (fun I3 f3 => ?_))
    refine E_callV (As := [_]) (ci := 0) (kc' := 0) (ks' := 0) (kc := 0) (ks := 0) dX0_pour_28 ok_X0_come w_X0_122 i_X0_come s_X0_come rfl (by decide) rfl (Nat.lt_of_lt_of_le (by decide) hN) rfl rfl rfl (Nat.le_of_ble_eq_true rfl) (Nat.le_of_ble_eq_true rfl) (Nat.le_refl _) (x_come (d := d + 2) (m := amQ q (fcI k LN Y S D i w) 100 9) (D := D) hN hR hk hq hLN (hX.keep ((BFc.row f2 (by decide)).trans (BFc.row f3 (by decide)))) hO0 ((hD.row (f2 22 (by decide)) (f2 23 (by decide))).row (f3 22 (by decide)) (f3 23 (by decide))) (by omega) (fun I5 f5 d5 => ?_))
    refine E_istore_n dX0_pour_31 (Nat.le_of_ble_eq_true rfl) ?_
    refine E_aload_n dX0_pour_32 rfl ?_
    refine E_getR dX0_pour_33 f_X0_12 rfl (Nat.lt_of_lt_of_le (by decide) hN) rfl (hR _ _ _ rfl) ?_
    refine E_ic (nI 0) dX0_pour_36 (by decide) ?_
    refine E_aload_n dX0_pour_37 rfl ?_
    refine E_getR dX0_pour_38 f_X0_12 rfl (Nat.lt_of_lt_of_le (by decide) hN) rfl (hR _ _ _ rfl) ?_
    refine E_getI dX0_pour_41 f_X0_84 rfl (Nat.lt_of_lt_of_le (by decide) hN) rfl ?_
    refine E.top (d5.2.2 0 (by decide)) ?_
    refine E_iload_n dX0_pour_44 rfl ?_
    refine E_isub dX0_pour_45 ?_
    refine E_mmax dX0_pour_46 w_X0_91 (Nat.le_of_ble_eq_true rfl) (by omega) ?_
    refine E.top (mx_sub (a := D 0) (b := min (amQ q (fcI k LN Y S D i w) 100 9) (LN - D 3)) (by omega) (by omega)) ?_
    refine E_putI dX0_pour_49 f_X0_84 rfl (Nat.lt_of_lt_of_le (by decide) hN) rfl ?_
    exact E_ret dX0_pour_52 rfl (hQ _ ((((BFc.row f2 (by decide)).trans (BFc.row f3 (by decide))).trans f5).trans (row23 _ _ _)) (d5.st (j := 0) _ (by decide)))
set_option maxRecDepth 100000 in
set_option maxHeartbeats 2000000 in
theorem x_perf0 (hN : 152 ≤ n) (hR : RS R) (hk : k < 12) (hq : LWF q) (hLN : LN ≤ 24) (hX : BXc k LN Y S q I R) (hO : okD LN D) (hD : BDc D I) (hQ : ∀ I2 : IM, BFc I I2 → BDc (ddS q k LN Y S 0 i w D) I2 → Q none n I2 J R) : E g mX0_perform (d + 5) 0 0 0 (ent 4 [.ref 22, .int (nI 0), .int (nI i), .int (nI w)]) [] n I J R Q := by
  have hO0 := hO
  have alm := amQ_le q (fcI k LN Y S D i w) 97 19
  obtain ⟨o0, o1, o2, o3, o4, o5, o6, o7, o8, o9⟩ := hO
  refine E_iload_n dX0_perform_0 rfl ?_
  refine E_tin (tgt := 40) dX0_perform_1 (by decide) (by decide) rfl (by decide) ?_
  refine E_aload_n dX0_perform_40 rfl ?_
  refine E_callV (As := []) (ci := 0) (kc' := 0) (ks' := 0) (kc := 0) (ks := 0) dX0_perform_41 ok_X0_turn w_X0_71 i_X0_turn s_X0_turn rfl (by decide) rfl (Nat.lt_of_lt_of_le (by decide) hN) rfl rfl rfl (Nat.le_of_ble_eq_true rfl) (Nat.le_of_ble_eq_true rfl) (Nat.le_refl _) (x_turn (d := d) hN hR hk hq hLN hX hO0 hD (fun I2 f2 d2 => ?_))
  refine E_goto (tgt := 123) dX0_perform_44 (by decide) ?_
  exact E_ret dX0_perform_123 rfl (hQ I2 f2 d2)
set_option maxRecDepth 100000 in
set_option maxHeartbeats 2000000 in
theorem x_perf1 (hN : 152 ≤ n) (hR : RS R) (hk : k < 12) (hq : LWF q) (hLN : LN ≤ 24) (hX : BXc k LN Y S q I R) (hO : okD LN D) (hD : BDc D I) (hQ : ∀ I2 : IM, BFc I I2 → BDc (ddS q k LN Y S 1 i w D) I2 → Q none n I2 J R) : E g mX0_perform (d + 5) 0 0 0 (ent 4 [.ref 22, .int (nI 1), .int (nI i), .int (nI w)]) [] n I J R Q := by
  have hO0 := hO
  have alm := amQ_le q (fcI k LN Y S D i w) 97 19
  obtain ⟨o0, o1, o2, o3, o4, o5, o6, o7, o8, o9⟩ := hO
  refine E_iload_n dX0_perform_0 rfl ?_
  refine E_tin (tgt := 47) dX0_perform_1 (by decide) (by decide) rfl (by decide) ?_
  refine E_aload_n dX0_perform_47 rfl ?_
  refine E_iload_n dX0_perform_48 rfl ?_
  refine E_iload_n dX0_perform_49 rfl ?_
  refine E_callV (As := [_, _]) (ci := 0) (kc' := 0) (ks' := 0) (kc := 0) (ks := 0) dX0_perform_50 ok_X0_pull w_X0_74 i_X0_pull s_X0_pull rfl (by decide) rfl (Nat.lt_of_lt_of_le (by decide) hN) rfl rfl rfl (Nat.le_of_ble_eq_true rfl) (Nat.le_of_ble_eq_true rfl) (Nat.le_refl _) (x_pull (d := d) (i := i) (w := w) hN hR hk hq hLN hX hO0 hD (fun I2 f2 d2 => ?_))
  refine E_goto (tgt := 123) dX0_perform_53 (by decide) ?_
  exact E_ret dX0_perform_123 rfl (hQ I2 f2 d2)
set_option maxRecDepth 100000 in
set_option maxHeartbeats 2000000 in
theorem x_perf2 (hN : 152 ≤ n) (hR : RS R) (hk : k < 12) (hq : LWF q) (hLN : LN ≤ 24) (hX : BXc k LN Y S q I R) (hO : okD LN D) (hD : BDc D I) (hQ : ∀ I2 : IM, BFc I I2 → BDc (ddS q k LN Y S 2 i w D) I2 → Q none n I2 J R) : E g mX0_perform (d + 5) 0 0 0 (ent 4 [.ref 22, .int (nI 2), .int (nI i), .int (nI w)]) [] n I J R Q := by
  have hO0 := hO
  have alm := amQ_le q (fcI k LN Y S D i w) 97 19
  obtain ⟨o0, o1, o2, o3, o4, o5, o6, o7, o8, o9⟩ := hO
  refine E_iload_n dX0_perform_0 rfl ?_
  refine E_tin (tgt := 56) dX0_perform_1 (by decide) (by decide) rfl (by decide) ?_
  refine E_aload_n dX0_perform_56 rfl ?_
  refine E_iload_n dX0_perform_57 rfl ?_
  refine E_iload_n dX0_perform_58 rfl ?_
  refine E_callV (As := [_, _]) (ci := 0) (kc' := 0) (ks' := 0) (kc := 0) (ks := 0) dX0_perform_59 ok_X0_shake w_X0_78 i_X0_shake s_X0_shake rfl (by decide) rfl (Nat.lt_of_lt_of_le (by decide) hN) rfl rfl rfl (Nat.le_of_ble_eq_true rfl) (Nat.le_of_ble_eq_true rfl) (Nat.le_refl _) (x_shake (d := d) (i := i) (w := w) hN hR hk hq hLN hX hO0 hD (fun I2 f2 d2 => ?_))
  refine E_goto (tgt := 123) dX0_perform_62 (by decide) ?_
  exact E_ret dX0_perform_123 rfl (hQ I2 f2 d2)
set_option maxRecDepth 100000 in
set_option maxHeartbeats 2000000 in
theorem x_perf3 (hN : 152 ≤ n) (hR : RS R) (hk : k < 12) (hq : LWF q) (hLN : LN ≤ 24) (hX : BXc k LN Y S q I R) (hO : okD LN D) (hD : BDc D I) (hQ : ∀ I2 : IM, BFc I I2 → BDc (ddS q k LN Y S 3 i w D) I2 → Q none n I2 J R) : E g mX0_perform (d + 5) 0 0 0 (ent 4 [.ref 22, .int (nI 3), .int (nI i), .int (nI w)]) [] n I J R Q := by
  have hO0 := hO
  have alm := amQ_le q (fcI k LN Y S D i w) 97 19
  obtain ⟨o0, o1, o2, o3, o4, o5, o6, o7, o8, o9⟩ := hO
  refine E_iload_n dX0_perform_0 rfl ?_
  refine E_tin (tgt := 65) dX0_perform_1 (by decide) (by decide) rfl (by decide) ?_
  refine E_aload_n dX0_perform_65 rfl ?_
  refine E_iload_n dX0_perform_66 rfl ?_
  refine E_iload_n dX0_perform_67 rfl ?_
  refine E_callV (As := [_, _]) (ci := 0) (kc' := 0) (ks' := 0) (kc := 0) (ks := 0) dX0_perform_68 ok_X0_learn w_X0_81 i_X0_learn s_X0_learn rfl (by decide) rfl (Nat.lt_of_lt_of_le (by decide) hN) rfl rfl rfl (Nat.le_of_ble_eq_true rfl) (Nat.le_of_ble_eq_true rfl) (Nat.le_refl _) (x_learn (i := i) (w := w) hN hR hk hq hLN hX hO0 hD (fun I2 f2 a2 => ?_))
  refine E_aload_n dX0_perform_71 rfl ?_
  refine E_getR dX0_perform_72 f_X0_12 rfl (Nat.lt_of_lt_of_le (by decide) hN) rfl (hR _ _ _ rfl) ?_
  refine E_ic (nI 0) dX0_perform_75 (by decide) ?_
  refine E_aload_n dX0_perform_76 rfl ?_
  refine E_getR dX0_perform_77 f_X0_12 rfl (Nat.lt_of_lt_of_le (by decide) hN) rfl (hR _ _ _ rfl) ?_
  refine E_getI dX0_perform_80 f_X0_84 rfl (Nat.lt_of_lt_of_le (by decide) hN) rfl ?_
  refine E.top ((hD.row (f2 22 (by decide)) (f2 23 (by decide))).2.2 0 (by decide)) ?_
  refine E_aload_n dX0_perform_83 rfl ?_
  refine E_getR dX0_perform_84 f_X0_28 rfl (Nat.lt_of_lt_of_le (by decide) hN) rfl hX.2.1 ?_
  refine E_bp (nI 97) dX0_perform_87 (by decide) ?_
  refine E_bp (nI 19) dX0_perform_89 (by decide) ?_
  refine E_callV (As := [_, _]) (ci := 3) (kc' := 0) (ks' := 0) (kc := 0) (ks := 0) dX0_perform_91 ok_X3_amount w_X0_87 i_X3_amount s_X3_amount rfl (by decide) rfl (Nat.lt_of_lt_of_le (by decide) hN) rfl rfl rfl (Nat.le_of_ble_eq_true rfl) (Nat.le_of_ble_eq_true rfl) (Nat.le_refl _) (x_amount (d := d + 2) (q := q) (fa := fcI k LN Y S D i w) (w := 97) (mo := 19) hN hR hq (hX.keep (BFc.row f2 (by decide))).2.2.2.2.2 a2 (by decide) (by decide) (by decide) (fun I3 f3 => ?_))
  refine E_isub dX0_perform_94 ?_
  refine E_mmax dX0_perform_95 w_X0_91 (Nat.le_of_ble_eq_true rfl) (by omega) ?_
  refine E.top (mx_sub (a := D 0) (b := amQ q (fcI k LN Y S D i w) 97 19) (by omega) (by omega)) ?_
  refine E_putI dX0_perform_98 f_X0_84 rfl (Nat.lt_of_lt_of_le (by decide) hN) rfl ?_
  refine E_goto (tgt := 123) dX0_perform_101 (by decide) ?_
  exact E_ret dX0_perform_123 rfl (hQ _ (((BFc.row f2 (by decide)).trans (BFc.row f3 (by decide))).trans (row23 _ _ _)) (((hD.row (f2 22 (by decide)) (f2 23 (by decide))).row (f3 22 (by decide)) (f3 23 (by decide))).st (j := 0) _ (by decide)))
set_option maxRecDepth 100000 in
set_option maxHeartbeats 2000000 in
theorem x_perf4 (hN : 152 ≤ n) (hR : RS R) (hk : k < 12) (hq : LWF q) (hLN : LN ≤ 24) (hX : BXc k LN Y S q I R) (hO : okD LN D) (hD : BDc D I) (hQ : ∀ I2 : IM, BFc I I2 → BDc (ddS q k LN Y S 4 i w D) I2 → Q none n I2 J R) : E g mX0_perform (d + 5) 0 0 0 (ent 4 [.ref 22, .int (nI 4), .int (nI i), .int (nI w)]) [] n I J R Q := by
  have hO0 := hO
  have alm := amQ_le q (fcI k LN Y S D i w) 97 19
  obtain ⟨o0, o1, o2, o3, o4, o5, o6, o7, o8, o9⟩ := hO
  refine E_iload_n dX0_perform_0 rfl ?_
  refine E_tin (tgt := 104) dX0_perform_1 (by decide) (by decide) rfl (by decide) ?_
  refine E_aload_n dX0_perform_104 rfl ?_
  refine E_iload_n dX0_perform_105 rfl ?_
  refine E_iload_n dX0_perform_106 rfl ?_
  refine E_callV (As := [_, _]) (ci := 0) (kc' := 0) (ks' := 0) (kc := 0) (ks := 0) dX0_perform_107 ok_X0_pour w_X0_96 i_X0_pour s_X0_pour rfl (by decide) rfl (Nat.lt_of_lt_of_le (by decide) hN) rfl rfl rfl (Nat.le_of_ble_eq_true rfl) (Nat.le_of_ble_eq_true rfl) (Nat.le_refl _) (x_pour (d := d) (i := i) (w := w) hN hR hk hq hLN hX hO0 hD (fun I2 f2 d2 => ?_))
  refine E_goto (tgt := 123) dX0_perform_110 (by decide) ?_
  exact E_ret dX0_perform_123 rfl (hQ I2 f2 d2)
set_option maxRecDepth 100000 in
set_option maxHeartbeats 2000000 in
theorem x_perf5 (hN : 152 ≤ n) (hR : RS R) (hk : k < 12) (hq : LWF q) (hLN : LN ≤ 24) (hX : BXc k LN Y S q I R) (hO : okD LN D) (hD : BDc D I) (hQ : ∀ I2 : IM, BFc I I2 → BDc (ddS q k LN Y S 5 i w D) I2 → Q none n I2 J R) : E g mX0_perform (d + 5) 0 0 0 (ent 4 [.ref 22, .int (nI 5), .int (nI i), .int (nI w)]) [] n I J R Q := by
  have hO0 := hO
  have alm := amQ_le q (fcI k LN Y S D i w) 97 19
  obtain ⟨o0, o1, o2, o3, o4, o5, o6, o7, o8, o9⟩ := hO
  refine E_iload_n dX0_perform_0 rfl ?_
  refine E_tin (tgt := 113) dX0_perform_1 (by decide) (by decide) rfl (by decide) ?_
  refine E_aload_n dX0_perform_113 rfl ?_
  refine E_getR dX0_perform_114 f_X0_12 rfl (Nat.lt_of_lt_of_le (by decide) hN) rfl (hR _ _ _ rfl) ?_
  refine E_callV (As := []) (ci := 7) (kc' := 0) (ks' := 0) (kc := 0) (ks := 0) dX0_perform_117 ok_X8_corks w_X0_99 i_X8_corks s_X8_corks rfl (by decide) rfl (Nat.lt_of_lt_of_le (by decide) hN) rfl rfl rfl (Nat.le_of_ble_eq_true rfl) (Nat.le_of_ble_eq_true rfl) (Nat.le_refl _) (c_State_corks rfl (Nat.lt_of_lt_of_le (by decide) hN) ?_)
  refine E_goto (tgt := 123) dX0_perform_120 (by decide) ?_
  exact E_ret dX0_perform_123 rfl (hQ _ ((row23 _ _ _).trans ((row23 _ _ _).trans (row23 _ _ _))) (((hD.st (j := 4) 0 (by decide)).st (j := 1) 9 (by decide)).st (j := 2) 0 (by decide)))
set_option maxRecDepth 100000 in
set_option maxHeartbeats 2000000 in
theorem x_perform {dd : Nat} (hdd : dd < 6) (hN : 152 ≤ n) (hR : RS R) (hk : k < 12) (hq : LWF q) (hLN : LN ≤ 24) (hX : BXc k LN Y S q I R) (hO : okD LN D) (hD : BDc D I) (hQ : ∀ I2 : IM, BFc I I2 → BDc (ddS q k LN Y S dd i w D) I2 → Q none n I2 J R) : E g mX0_perform (d + 5) 0 0 0 (ent 4 [.ref 22, .int (nI dd), .int (nI i), .int (nI w)]) [] n I J R Q := by
  have cd : dd = 0 ∨ dd = 1 ∨ dd = 2 ∨ dd = 3 ∨ dd = 4 ∨ dd = 5 := by omega
  rcases cd with rfl | rfl | rfl | rfl | rfl | rfl
  · exact x_perf0 hN hR hk hq hLN hX hO hD hQ
  · exact x_perf1 hN hR hk hq hLN hX hO hD hQ
  · exact x_perf2 hN hR hk hq hLN hX hO hD hQ
  · exact x_perf3 hN hR hk hq hLN hX hO hD hQ
  · exact x_perf4 hN hR hk hq hLN hX hO hD hQ
  · exact x_perf5 hN hR hk hq hLN hX hO hD hQ
end PDeeds
