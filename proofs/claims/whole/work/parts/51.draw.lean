/-! ===== draw, tried ===== -/
def lotS (l : Nat) : Nat := (25173 * l + 13849) % 65536
def rnS (q : LWD) (k LN : Nat) (Y S f : FN) : Nat → Nat → FN → Nat → Int32 → FN × Nat × Int32
  | 0, _, D, l, b => (D, l, b)
  | e + 1, i, D, l, b => if D 5 = 0 then rnS q k LN Y S f e (i + 1) (ddS q k LN Y S (f i) i (lotS l % 10) D) (lotS l) (if ddS q k LN Y S (f i) i (lotS l % 10) D 5 = 0 then b else nI i) else (D, l, b)
theorem rnS_t {q : LWD} {k LN : Nat} {Y S f D : FN} {e i l : Nat} {b : Int32} (h : D 5 = 0) : rnS q k LN Y S f (e + 1) i D l b = rnS q k LN Y S f e (i + 1) (ddS q k LN Y S (f i) i (lotS l % 10) D) (lotS l) (if ddS q k LN Y S (f i) i (lotS l % 10) D 5 = 0 then b else nI i) := if_pos h
theorem rnS_f {q : LWD} {k LN : Nat} {Y S f D : FN} {e i l : Nat} {b : Int32} (h : ¬ D 5 = 0) : rnS q k LN Y S f (e + 1) i D l b = (D, l, b) := if_neg h
theorem rnS_ok {q : LWD} {k LN : Nat} {Y S f : FN} : ∀ (e i : Nat) (D : FN) (l : Nat) (b : Int32), okD LN D → l ≤ 65535 → okD LN (rnS q k LN Y S f e i D l b).1 ∧ (rnS q k LN Y S f e i D l b).2.1 ≤ 65535
  | 0, _, _, _, _, h, hl => ⟨h, hl⟩
  | e + 1, i, D, l, b, h, hl => by
    by_cases c : D 5 = 0
    · rw [rnS_t c]
      exact rnS_ok e (i + 1) _ _ _ (ddS_ok h) (by unfold lotS; omega)
    · rw [rnS_f c]
      exact ⟨h, hl⟩
theorem rnS_c {q : LWD} {k LN : Nat} {Y S f : FN} : ∀ (e i : Nat) (D : FN) (l : Nat) (b : Int32), D 7 ≤ D 3 → (rnS q k LN Y S f e i D l b).1 7 ≤ (rnS q k LN Y S f e i D l b).1 3
  | 0, _, _, _, _, h => h
  | e + 1, i, D, l, b, h => by
    by_cases c : D 5 = 0
    · rw [rnS_t c]
      exact rnS_c e (i + 1) _ _ _ (ddS_c h)
    · rw [rnS_f c]
      exact h
def bgD (s : FN) (sc : Nat) : FN := fun j => if j = 6 then sc else if j = 7 then 0 else s j
/-- the run that a text of deeds begins -/
def rnQ (q : LWD) (σ : ST) (k : Nat) (r : Nat × Nat × FN) : FN × Nat × Int32 := rnS q k (σ 0 k 0) (σ 1 k) (σ 2 k) r.2.2 r.2.1 0 (bgD (σ 3 k) (σ 4 0 0)) (σ 4 2 0) (if σ 3 k 5 = 0 then -2 else -3)
theorem bgD_ok {σ : ST} {k : Nat} (hB : BND σ) (hk : k < 12) : okD (σ 0 k 0) (bgD (σ 3 k) (σ 4 0 0)) := by
  obtain ⟨a1, a2, ⟨h0, h1, h2, h3, h4, h5, h6, h7⟩, a4⟩ := hB.1 k hk
  exact ⟨h0, h1, h2, a4, h4, h5, h6, h7, hB.2.1.1, trivial⟩
/-- he stands as D says, the rest as the run left it -/
def uD (k : Nat) (D : FN) (l : Nat) (σ : ST) : ST := ups (ups (u0 σ) 3 (fun i j => if i = k then D j else σ 3 i j)) 4 (fun i _ => if i = 0 then D 6 else if i = 1 then min 9999 (σ 4 1 0 + D 7) else l)
theorem uD_B {k l : Nat} {D : FN} {σ : ST} (hB : BND σ) (hk : k < 12) (h0 : 0 < σ 0 k 0) (h : okD (σ 0 k 0) D) (hl : l ≤ 65535) : BND (uD k D l σ) := by
  obtain ⟨h1, h2, h3, h4, h5, h6, h7⟩ := hB
  obtain ⟨d0, d1, d2, d3, d4, d5, d6, d7, d8, d9⟩ := h
  refine ⟨fun i hi => ?_, ⟨d8, by show min 9999 (σ 4 1 0 + D 7) ≤ 9999; omega, hl⟩, h3, h4, fun j hj => absurd hj (Nat.not_lt_zero j), Nat.zero_le _, fun i hi hz => ?_⟩
  · obtain ⟨a1, a2, a3, a4⟩ := h1 i hi
    by_cases e : i = k
    · subst e
      have e3 : uD i D l σ 3 i = D := funext fun j => if_pos rfl
      rw [e3]
      exact ⟨a1, a2, ⟨d0, d1, d2, by omega, d4, d5, d6, d7⟩, d3⟩
    · have e3 : uD k D l σ 3 i = σ 3 i := funext fun j => if_neg e
      rw [e3]
      exact ⟨a1, a2, a3, a4⟩
  · by_cases e : i = k
    · subst e
      have : σ 0 i 0 = 0 := hz
      omega
    · have e3 : uD k D l σ 3 i = σ 3 i := funext fun j => if_neg e
      rw [e3]
      exact h7 i hi hz
def SXQ (Mx : MD) (As : List Value) (sp : LWD → ST → Value) (up : LWD → ST → ST) : Prop := ∀ (g : GL) (n : Nat) (I : IM) (J : JM) (R : RM) (σ : ST) (q : LWD) (Q : PQ), BND σ → XR σ n I R → LWF q → LXq q I → (∀ (I' : IM) (J' : JM) (R' : RM), XR (up q σ) n I' R' → (∀ a, 3 ≤ a → a ≤ 8 → I' a = I a) → (∀ a, 114 ≤ a → a < 152 → I' a = I a) → Q (some (sp q σ)) n I' J' R') → E g Mx 900 0 0 0 (ent Mx.2.2.1 (.ref 0 :: As)) [] n I J R Q
def SMQ (Mm : MD) (As : List Value) (sp : LWD → ST → Value) (up : LWD → ST → ST) : Prop := ∀ (g : GL) (n : Nat) (I : IM) (J : JM) (R : RM) (σ : ST) (q : LWD) (Q : PQ), BND σ → MR σ I → LWF q → LMq q I → 152 ≤ n → RS R → (∀ (I' : IM) (J' : JM), MR (up q σ) I' → (∀ a, a < 114 → I' a = I a) → I' 114 16 = I 114 16 → (∀ a, 128 ≤ a → a ≤ 132 → I' a = I a) → Q (some (sp q σ)) n I' J' R) → E g Mm 900 0 0 0 (ent Mm.2.2.1 (.ref 114 :: As)) [] n I J R Q
theorem pair_ofQ {Mx Mm : MD} {As : List Value} {vl : Value → Prop} (sp : LWD → ST → Value) (up : LWD → ST → ST) (hv : ∀ q σ, vl (sp q σ)) (hx : SXQ Mx As sp up) (hm : SMQ Mm As sp up) (hb : ∀ q σ, BND σ → BND (up q σ)) (g : GL) (n : Nat) (I : IM) (J : JM) (R : RM) (h : INV LRq n I J R) : ∃ (r : Value) (P : Nat → IM → JM → RM → Prop) (kx sx : Nat), vl r ∧ kx ≤ 153 - n ∧ sx ≤ 49500 * (153 - n) ∧
  (∀ Q : PQ, (∀ n' I' J' R', 152 ≤ n' → n' ≤ 153 → kx + (153 - n') ≤ 153 - n → sx + 49500 * (153 - n') ≤ 49500 * (153 - n) → P n' I' J' R' → Q (some r) n' I' J' R') → E g Mx 900 kx sx 0 (ent Mx.2.2.1 (.ref 0 :: As)) [] n I J R Q) ∧
  ∀ n' I' J' R', P n' I' J' R' → ∀ Q : PQ, (∀ I2 J2 R2, INV LRq n' I2 J2 R2 → Q (some r) n' I2 J2 R2) → E g Mm 900 0 0 0 (ent Mm.2.2.1 (.ref 114 :: As)) [] n' I' J' R' Q := by
  obtain ⟨σ, hB, hX, hM, hl⟩ := h
  obtain ⟨q, l1, l2, l3⟩ := hl
  have hn := hX.2.2.2.1.n
  refine ⟨sp q σ, fun n' I' _ R' => n' = n ∧ XR (up q σ) n I' R' ∧ (∀ a, 3 ≤ a → a ≤ 8 → I' a = I a) ∧ (∀ a, 114 ≤ a → a < 152 → I' a = I a), 0, 0, hv q σ, Nat.zero_le _, Nat.zero_le _, fun Q hQ => ?_, ?_⟩
  · exact hx g n I J R σ q Q hB hX l1 l2 (fun I' J' R' h1 h2 h3 => hQ n I' J' R' hn.1 hn.2 (by omega) (by omega) ⟨rfl, h1, h2, h3⟩)
  · rintro n' I' J' R' ⟨rfl, h1, h2, h3⟩ Q hQ
    refine hm g n' I' J' R' σ q Q hB (hM.off h3) l1 (l3.keep (by rw [h3 114 (by decide) (by decide)]) (fun a a1 a2 => h3 a (by omega) (by omega))) hn.1 h1.2.2.2.1.1 (fun I2 J2 m1 m2 m3 m4 => ?_)
    exact hQ I2 J2 R' ⟨up q σ, hb q σ hB, h1.off m2, m1, LRq_ok I I2 (fun a a1 a2 => (m2 a (by omega)).trans (h2 a a1 a2)) (by rw [m3, h3 114 (by decide) (by decide)]) (fun a a1 a2 => (m4 a a1 a2).trans (h3 a (by omega) (by omega))) ⟨q, l1, l2, l3⟩⟩
def BF2 (I I' : IM) : Prop := (∀ x, x ≠ 9 → x ≠ 10 → x ≠ 22 → x ≠ 23 → I' x = I x) ∧ I' 22 3 = I 22 3
theorem BXc.keep2 {k LN : Nat} {Y S : FN} {q : LWD} {I I' : IM} {R : RM} (h : BXc k LN Y S q I R) (f : BF2 I I') : BXc k LN Y S q I' R := ⟨h.1, h.2.1, f.2.trans h.2.2.1, (congrFun (f.1 (54 + 5 * k) (by omega) (by omega) (by omega) (by omega)) 4).trans h.2.2.2.1, fun i hi => by rw [f.1 (55 + 5 * k) (by omega) (by omega) (by omega) (by omega), f.1 (56 + 5 * k) (by omega) (by omega) (by omega) (by omega)]; exact h.2.2.2.2.1 i hi, h.2.2.2.2.2.keep (fun a a1 a2 => f.1 a (by omega) (by omega) (by omega) (by omega))⟩
theorem BF2.of {I I' : IM} (h : BFc I I') : BF2 I I' := ⟨h.1, h.2 3 (by decide) (by decide)⟩
theorem BF2.trans {I I' I2 : IM} (h : BF2 I I') (h2 : BF2 I' I2) : BF2 I I2 := ⟨fun x a b c d => (h2.1 x a b c d).trans (h.1 x a b c d), h2.2.trans h.2⟩
theorem BF2.up (I : IM) {j : Nat} (v : Int32) (hj : j = 5 ∨ j = 7) : BF2 I (up2 I 22 j v) := ⟨fun x _ _ h3 _ => up2_o I 22 j v x h3, up2_k I v (by omega)⟩
theorem BDc.o {D : FN} {I : IM} (h : BDc D I) {j : Nat} (v : Int32) (hj : j = 5 ∨ j = 7) : BDc D (up2 I 22 j v) := ⟨(up2_k I _ (by omega)).trans h.1, (up2_k I _ (by omega)).trans h.2.1, fun i hi => (congrFun (up2_o I 22 j _ 23 (by decide)) i).trans (h.2.2 i hi)⟩
section PDraw
variable {g : GL} {d n : Nat} {I : IM} {J : JM} {R : RM} {Q : PQ} {k LN i w : Nat} {Y S D : FN} {q : LWD} {σ : ST}
set_option maxRecDepth 100000 in
set_option maxHeartbeats 2000000 in
theorem x_begin {sc l : Nat} {s : FN} (hN : 152 ≤ n) (hR : RS R) (hk : k < 12) (hW : ∀ j, j < 6 → I (57 + 5 * k) j = nI (s j)) (s4 : s 4 ≤ 1) (s5 : s 5 ≤ 1) (hQ : ∀ I2 : IM, (∀ x, x ≠ 22 → x ≠ 23 → I2 x = I x) → I2 22 3 = nI k → BDc (bgD s sc) I2 → I2 22 5 = nI l → I2 22 7 = (if s 5 = 0 then -2 else -3) → Q none n I2 J (up2 (up2 R 22 1 (some (54 + 5 * k))) 22 2 (some 3))) : E g mX0_begin (d + 1) 0 0 0 (ent 6 [.ref 22, .int (nI k), .ref (54 + 5 * k), .ref 3, .int (nI sc), .int (nI l)]) [] n I J R Q := by
  have hRB : RS (up2 (up2 R 22 1 (some (54 + 5 * k))) 22 2 (some 3)) := RS.up (RS.up hR rfl) rfl
  have h5v : up2 (up2 (up2 (blk (up2 I 22 3 (nI k)) 23 (57 + 5 * k) 6) 22 4 (nI sc)) 22 5 (nI l)) 22 6 (nI 0) 23 5 = nI (s 5) := by
    rw [up2_o _ 22 _ _ 23 (by decide), up2_o _ 22 _ _ 23 (by decide), up2_o _ 22 _ _ 23 (by decide)]
    exact (if_pos ⟨rfl, by decide⟩).trans ((congrFun (up2_o I 22 3 _ (57 + 5 * k) (by omega)) 5).trans (hW 5 (by decide)))
  refine E_aload_n dX0_begin_0 rfl ?_
  refine E_iload_n dX0_begin_1 rfl ?_
  refine E_putI dX0_begin_2 f_X0_32 rfl (Nat.lt_of_lt_of_le (by decide) hN) rfl ?_
  refine E_aload_n dX0_begin_5 rfl ?_
  refine E_aload_n dX0_begin_6 rfl ?_
  refine E_putR dX0_begin_7 f_X0_21 rfl (Nat.lt_of_lt_of_le (by decide) hN) rfl (Or.inl ⟨_, rfl⟩) ?_
  refine E_aload_n dX0_begin_10 rfl ?_
  refine E_aload_n dX0_begin_11 rfl ?_
  refine E_putR dX0_begin_12 f_X0_28 rfl (Nat.lt_of_lt_of_le (by decide) hN) rfl (Or.inl ⟨_, rfl⟩) ?_
  refine E_aload_n dX0_begin_15 rfl ?_
  refine E_getR dX0_begin_16 f_X0_12 rfl (Nat.lt_of_lt_of_le (by decide) hN) rfl (hRB _ _ _ rfl) ?_
  refine E_aload_n dX0_begin_19 rfl ?_
  refine E_getR dX0_begin_20 f_X0_48 (LYw k (by first | assumption | omega)).1 (by first | assumption | omega) rfl (hRB _ _ _ (RTw k hk).2.2.1) ?_
  refine E_callV (As := [_]) (ci := 7) (kc' := 0) (ks' := 0) (kc := 0) (ks := 0) dX0_begin_23 ok_X8_take w_X0_51 i_X8_take s_X8_take rfl (by decide) rfl (Nat.lt_of_lt_of_le (by decide) hN) rfl rfl rfl (Nat.le_of_ble_eq_true rfl) (Nat.le_of_ble_eq_true rfl) (Nat.le_refl _) (c_State_take rfl (LYw k hk).2.2.2.1 (Nat.lt_of_lt_of_le (by decide) hN) (by omega) (by rw [up2_o I 22 3 _ (57 + 5 * k) (by omega), hW 4 (by decide)]; rcases Nat.le_one_iff_eq_zero_or_eq_one.mp s4 with z | z <;> rw [z]; exact Or.inl rfl; exact Or.inr rfl) (by rw [up2_o I 22 3 _ (57 + 5 * k) (by omega), hW 5 (by decide)]; rcases Nat.le_one_iff_eq_zero_or_eq_one.mp s5 with z | z <;> rw [z]; exact Or.inl rfl; exact Or.inr rfl) ?_)
  refine E_aload_n dX0_begin_26 rfl ?_
  refine E_iload dX0_begin_27 rfl ?_
  refine E_putI dX0_begin_29 f_X0_36 rfl (Nat.lt_of_lt_of_le (by decide) hN) rfl ?_
  refine E_aload_n dX0_begin_32 rfl ?_
  refine E_iload dX0_begin_33 rfl ?_
  refine E_putI dX0_begin_35 f_X0_39 rfl (Nat.lt_of_lt_of_le (by decide) hN) rfl ?_
  refine E_aload_n dX0_begin_38 rfl ?_
  refine E_ic (nI 0) dX0_begin_39 (by decide) ?_
  refine E_putI dX0_begin_40 f_X0_42 rfl (Nat.lt_of_lt_of_le (by decide) hN) rfl ?_
  refine E_aload_n dX0_begin_43 rfl ?_
  refine E_aload_n dX0_begin_44 rfl ?_
  refine E_getR dX0_begin_45 f_X0_12 rfl (Nat.lt_of_lt_of_le (by decide) hN) rfl (hRB _ _ _ rfl) ?_
  refine E_getI dX0_begin_48 f_X0_55 rfl (Nat.lt_of_lt_of_le (by decide) hN) rfl ?_
  refine E.top (h5v) ?_
  refine E_zN_eq (a := s 5) (tgt := 59) dX0_begin_51 (by omega) (by decide) (fun cw51 => ?_) (fun cw51 => ?_)
  · refine E_bp (-2) dX0_begin_59 (by decide) ?_
    refine E_putI dX0_begin_61 f_X0_45 rfl (Nat.lt_of_lt_of_le (by decide) hN) rfl ?_
    exact E_ret dX0_begin_64 rfl (by
        have key : ∀ v : Int32, v = (if s 5 = 0 then -2 else -3) → Q none n (up2 (up2 (up2 (up2 (blk (up2 I 22 3 (nI k)) 23 (57 + 5 * k) 6) 22 4 (nI sc)) 22 5 (nI l)) 22 6 (nI 0)) 22 7 v) J (up2 (up2 R 22 1 (some (54 + 5 * k))) 22 2 (some 3)) := fun v hv2 => hQ _ (fun x h1 h2 => by rw [up2_o _ 22 _ _ x h1, up2_o _ 22 _ _ x h1, up2_o _ 22 _ _ x h1, up2_o _ 22 _ _ x h1, show (blk (up2 I 22 3 (nI k)) 23 (57 + 5 * k) 6) x = up2 I 22 3 (nI k) x from funext fun y => if_neg (fun z => h2 z.1), up2_o _ 22 _ _ x h1]) rfl ⟨rfl, rfl, fun j hj => (show up2 (up2 (up2 (up2 (blk (up2 I 22 3 (nI k)) 23 (57 + 5 * k) 6) 22 4 (nI sc)) 22 5 (nI l)) 22 6 (nI 0)) 22 7 v 23 j = (blk (up2 I 22 3 (nI k)) 23 (57 + 5 * k) 6) 23 j by rw [up2_o _ 22 _ _ 23 (by decide), up2_o _ 22 _ _ 23 (by decide), up2_o _ 22 _ _ 23 (by decide), up2_o _ 22 _ _ 23 (by decide)]).trans ((if_pos ⟨rfl, hj⟩).trans ((congrFun (up2_o I 22 3 _ (57 + 5 * k) (by omega)) j).trans ((hW j hj).trans (congrArg nI (show s j = bgD s sc j by unfold bgD; rw [if_neg (by omega), if_neg (by omega)])))))⟩ rfl hv2
        first
        | exact key _ (if_neg (by omega)).symm
        | exact key _ (if_pos (by omega)).symm)
  · refine E_bp (-3) dX0_begin_54 (by decide) ?_
    refine E_goto (tgt := 61) dX0_begin_56 (by decide) ?_
    refine E_putI dX0_begin_61 f_X0_45 rfl (Nat.lt_of_lt_of_le (by decide) hN) rfl ?_
    exact E_ret dX0_begin_64 rfl (by
        have key : ∀ v : Int32, v = (if s 5 = 0 then -2 else -3) → Q none n (up2 (up2 (up2 (up2 (blk (up2 I 22 3 (nI k)) 23 (57 + 5 * k) 6) 22 4 (nI sc)) 22 5 (nI l)) 22 6 (nI 0)) 22 7 v) J (up2 (up2 R 22 1 (some (54 + 5 * k))) 22 2 (some 3)) := fun v hv2 => hQ _ (fun x h1 h2 => by rw [up2_o _ 22 _ _ x h1, up2_o _ 22 _ _ x h1, up2_o _ 22 _ _ x h1, up2_o _ 22 _ _ x h1, show (blk (up2 I 22 3 (nI k)) 23 (57 + 5 * k) 6) x = up2 I 22 3 (nI k) x from funext fun y => if_neg (fun z => h2 z.1), up2_o _ 22 _ _ x h1]) rfl ⟨rfl, rfl, fun j hj => (show up2 (up2 (up2 (up2 (blk (up2 I 22 3 (nI k)) 23 (57 + 5 * k) 6) 22 4 (nI sc)) 22 5 (nI l)) 22 6 (nI 0)) 22 7 v 23 j = (blk (up2 I 22 3 (nI k)) 23 (57 + 5 * k) 6) 23 j by rw [up2_o _ 22 _ _ 23 (by decide), up2_o _ 22 _ _ 23 (by decide), up2_o _ 22 _ _ 23 (by decide), up2_o _ 22 _ _ 23 (by decide)]).trans ((if_pos ⟨rfl, hj⟩).trans ((congrFun (up2_o I 22 3 _ (57 + 5 * k) (by omega)) j).trans ((hW j hj).trans (congrArg nI (show s j = bgD s sc j by unfold bgD; rw [if_neg (by omega), if_neg (by omega)])))))⟩ rfl hv2
        first
        | exact key _ (if_neg (by omega)).symm
        | exact key _ (if_pos (by omega)).symm)
theorem lot_x {l : Nat} (h : l ≤ 65535) : nI (25173 * l + 13849) &&& nI 65535 = nI (lotS l) := by
  rw [pk_andN (show 25173 * l + 13849 < 2 ^ 32 by omega) 16 (by decide)]
  rfl
set_option maxRecDepth 100000 in
set_option maxHeartbeats 2000000 in
theorem x_follow {m : Nat} {f : FN} (hN : 152 ≤ n) (hR : RS R) (hk : k < 12) (hq : LWF q) (hLN : LN ≤ 24) (hm : m ≤ 96) (hf : ∀ i, i < m → f i < 6) : ∀ (e i : Nat) (D : FN) (l : Nat) (b : Int32) (I : IM), i + e = m → BXc k LN Y S q I R → okD LN D → BDc D I → l ≤ 65535 → I 22 5 = nI l → I 22 7 = b → (∀ j, j < m → I 21 j = nI (f j)) → (∀ I2 : IM, BF2 I I2 → BDc (rnS q k LN Y S f e i D l b).1 I2 → I2 22 5 = nI (rnS q k LN Y S f e i D l b).2.1 → I2 22 7 = (rnS q k LN Y S f e i D l b).2.2 → Q none n I2 J R) → E g mX0_follow (d + 6) 0 0 2 [.ref 22, .ref 21, .int (nI m), .int (nI i)] [] n I J R Q := by
  intro e
  induction e with
  | zero =>
    intro i D l b I hie hX hO hD hl2 hl hb hI hQ
    refine E_iload_n dX0_follow_2 rfl ?_
    refine E_iload_n dX0_follow_3 rfl ?_
    refine E_cN_ge (a := i) (b := m) (tgt := 78) dX0_follow_4 (by omega) (by omega) (by decide) (fun cw4 => ?_) (fun cw4 => absurd cw4 (by omega))
    exact E_ret dX0_follow_78 rfl (hQ I (⟨fun _ _ _ _ _ => rfl, rfl⟩) hD hl hb)
  | succ e ih =>
    intro i D l b I hie hX hO hD hl2 hl hb hI hQ
    have o5 := hO.2.2.2.2.2.1
    have oo5 := (ddS_ok (q := q) (k := k) (Y := Y) (S := S) (deed := f i) (i := i) (w := lotS l % 10) hO).2.2.2.2.2.1
    by_cases h5 : D 5 = 0
    · by_cases hn5 : ddS q k LN Y S (f i) i (lotS l % 10) D 5 = 0
      · skip
        refine E_iload_n dX0_follow_2 rfl ?_
        refine E_iload_n dX0_follow_3 rfl ?_
        refine E_cN_ge (a := i) (b := m) (tgt := 78) dX0_follow_4 (by omega) (by omega) (by decide) (fun cw4 => absurd cw4 (by omega)) (fun cw4 => ?_)
        refine E_iload_n dX0_follow_7 rfl ?_
        refine E_aload_n dX0_follow_8 rfl ?_
        refine E_alen dX0_follow_9 rfl (Nat.lt_of_lt_of_le (by decide) hN) (by decide) (by decide) ?_
        refine E.top (show _ = nI 96 from rfl) ?_
        refine E_cN_ge (a := i) (b := 96) (tgt := 78) dX0_follow_10 (by omega) (by decide) (by decide) (fun cw10 => absurd cw10 (by omega)) (fun cw10 => ?_)
        refine E_aload_n dX0_follow_13 rfl ?_
        refine E_getR dX0_follow_14 f_X0_12 rfl (Nat.lt_of_lt_of_le (by decide) hN) rfl (hR _ _ _ rfl) ?_
        refine E_getI dX0_follow_17 f_X0_55 rfl (Nat.lt_of_lt_of_le (by decide) hN) rfl ?_
        refine E.top (hD.2.2 5 (by decide)) ?_
        refine E_zN_ne (a := D 5) (tgt := 78) dX0_follow_20 (by omega) (by decide) (fun cw20 => absurd cw20 (by omega)) (fun cw20 => ?_)
        refine E_aload_n dX0_follow_23 rfl ?_
        refine E_sp (nI 25173) dX0_follow_24 (by decide) ?_
        refine E_aload_n dX0_follow_27 rfl ?_
        refine E_getI dX0_follow_28 f_X0_39 rfl (Nat.lt_of_lt_of_le (by decide) hN) rfl ?_
        refine E.top (hl) ?_
        refine E_imul dX0_follow_31 ?_
        refine E.top (pk_mul 25173 l) ?_
        refine E_sp (nI 13849) dX0_follow_32 (by decide) ?_
        refine E_iadd dX0_follow_35 ?_
        refine E.top (nI_add (25173 * l) 13849) ?_
        refine E_ldc (nI 65535) dX0_follow_36 k_X0_59 ?_
        refine E_iand dX0_follow_38 ?_
        refine E.top (lot_x hl2) ?_
        refine E_putI dX0_follow_39 f_X0_39 rfl (Nat.lt_of_lt_of_le (by decide) hN) rfl ?_
        refine E_aload_n dX0_follow_42 rfl ?_
        refine E_aload_n dX0_follow_43 rfl ?_
        refine E_iload_n dX0_follow_44 rfl ?_
        refine E_ialdN dX0_follow_45 rfl (Nat.lt_of_lt_of_le (by decide) hN) (by omega) ?_
        refine E.top ((congrFun (up2_o I 22 5 _ 21 (by decide)) i).trans (hI i (by omega))) ?_
        refine E_iload_n dX0_follow_46 rfl ?_
        refine E_aload_n dX0_follow_47 rfl ?_
        refine E_getI dX0_follow_48 f_X0_39 rfl (Nat.lt_of_lt_of_le (by decide) hN) rfl ?_
        refine E.top (up2_s _ _ _ _) ?_
        refine E_bp (nI 10) dX0_follow_51 (by decide) ?_
        refine E_irem dX0_follow_53 (by decide) ?_
        refine E.top (pk_rem (a := lotS l) (d := 10) (by have : lotS l < 65536 := Nat.mod_lt _ (by decide); omega) (by decide) (by decide)) ?_
        refine E_callV (As := [_, _, _]) (ci := 0) (kc' := 0) (ks' := 0) (kc := 0) (ks := 0) dX0_follow_54 ok_X0_perform w_X0_60 i_X0_perform s_X0_perform rfl (by decide) rfl (Nat.lt_of_lt_of_le (by decide) hN) rfl rfl rfl (Nat.le_of_ble_eq_true rfl) (Nat.le_of_ble_eq_true rfl) (Nat.le_refl _) (x_perform (d := d) (dd := f i) (i := i) (w := lotS l % 10) (hf i (by omega)) hN hR hk hq hLN (hX.keep2 (BF2.up I _ (by decide))) hO (hD.o _ (by decide)) (fun I3 f3 d3 => ?_))
        refine E_aload_n dX0_follow_57 rfl ?_
        refine E_getR dX0_follow_58 f_X0_12 rfl (Nat.lt_of_lt_of_le (by decide) hN) rfl (hR _ _ _ rfl) ?_
        refine E_getI dX0_follow_61 f_X0_55 rfl (Nat.lt_of_lt_of_le (by decide) hN) rfl ?_
        refine E.top (d3.2.2 5 (by decide)) ?_
        refine E_zN_eq (a := (ddS q k LN Y S (f i) i (lotS l % 10) D) 5) (tgt := 72) dX0_follow_64 (by omega) (by decide) (fun cw64 => ?_) (fun cw64 => absurd cw64 (by omega))
        refine E_incN dX0_follow_72 rfl ?_
        refine E_goto (tgt := 2) dX0_follow_75 (by decide) ?_
        rw [rnS_t h5, if_pos hn5] at hQ
        exact ih (i + 1) _ (lotS l) _ I3 (by omega) (hX.keep2 ((BF2.up I (nI (lotS l)) (by decide)).trans (BF2.of f3))) (ddS_ok hO) d3 (by unfold lotS; omega) ((f3.2 5 (by decide) (by decide)).trans (up2_s _ _ _ _)) ((f3.2 7 (by decide) (by decide)).trans ((up2_k _ _ (by decide)).trans hb)) (fun j hj => (congrFun (((BF2.up I (nI (lotS l)) (by decide)).trans (BF2.of f3)).1 21 (by decide) (by decide) (by decide) (by decide)) j).trans (hI j hj)) (fun I4 f4 a4 b4 c4 => hQ I4 (((BF2.up I (nI (lotS l)) (by decide)).trans (BF2.of f3)).trans f4) a4 b4 c4)
      · skip
        refine E_iload_n dX0_follow_2 rfl ?_
        refine E_iload_n dX0_follow_3 rfl ?_
        refine E_cN_ge (a := i) (b := m) (tgt := 78) dX0_follow_4 (by omega) (by omega) (by decide) (fun cw4 => absurd cw4 (by omega)) (fun cw4 => ?_)
        refine E_iload_n dX0_follow_7 rfl ?_
        refine E_aload_n dX0_follow_8 rfl ?_
        refine E_alen dX0_follow_9 rfl (Nat.lt_of_lt_of_le (by decide) hN) (by decide) (by decide) ?_
        refine E.top (show _ = nI 96 from rfl) ?_
        refine E_cN_ge (a := i) (b := 96) (tgt := 78) dX0_follow_10 (by omega) (by decide) (by decide) (fun cw10 => absurd cw10 (by omega)) (fun cw10 => ?_)
        refine E_aload_n dX0_follow_13 rfl ?_
        refine E_getR dX0_follow_14 f_X0_12 rfl (Nat.lt_of_lt_of_le (by decide) hN) rfl (hR _ _ _ rfl) ?_
        refine E_getI dX0_follow_17 f_X0_55 rfl (Nat.lt_of_lt_of_le (by decide) hN) rfl ?_
        refine E.top (hD.2.2 5 (by decide)) ?_
        refine E_zN_ne (a := D 5) (tgt := 78) dX0_follow_20 (by omega) (by decide) (fun cw20 => absurd cw20 (by omega)) (fun cw20 => ?_)
        refine E_aload_n dX0_follow_23 rfl ?_
        refine E_sp (nI 25173) dX0_follow_24 (by decide) ?_
        refine E_aload_n dX0_follow_27 rfl ?_
        refine E_getI dX0_follow_28 f_X0_39 rfl (Nat.lt_of_lt_of_le (by decide) hN) rfl ?_
        refine E.top (hl) ?_
        refine E_imul dX0_follow_31 ?_
        refine E.top (pk_mul 25173 l) ?_
        refine E_sp (nI 13849) dX0_follow_32 (by decide) ?_
        refine E_iadd dX0_follow_35 ?_
        refine E.top (nI_add (25173 * l) 13849) ?_
        refine E_ldc (nI 65535) dX0_follow_36 k_X0_59 ?_
        refine E_iand dX0_follow_38 ?_
        refine E.top (lot_x hl2) ?_
        refine E_putI dX0_follow_39 f_X0_39 rfl (Nat.lt_of_lt_of_le (by decide) hN) rfl ?_
        refine E_aload_n dX0_follow_42 rfl ?_
        refine E_aload_n dX0_follow_43 rfl ?_
        refine E_iload_n dX0_follow_44 rfl ?_
        refine E_ialdN dX0_follow_45 rfl (Nat.lt_of_lt_of_le (by decide) hN) (by omega) ?_
        refine E.top ((congrFun (up2_o I 22 5 _ 21 (by decide)) i).trans (hI i (by omega))) ?_
        refine E_iload_n dX0_follow_46 rfl ?_
        refine E_aload_n dX0_follow_47 rfl ?_
        refine E_getI dX0_follow_48 f_X0_39 rfl (Nat.lt_of_lt_of_le (by decide) hN) rfl ?_
        refine E.top (up2_s _ _ _ _) ?_
        refine E_bp (nI 10) dX0_follow_51 (by decide) ?_
        refine E_irem dX0_follow_53 (by decide) ?_
        refine E.top (pk_rem (a := lotS l) (d := 10) (by have : lotS l < 65536 := Nat.mod_lt _ (by decide); omega) (by decide) (by decide)) ?_
        refine E_callV (As := [_, _, _]) (ci := 0) (kc' := 0) (ks' := 0) (kc := 0) (ks := 0) dX0_follow_54 ok_X0_perform w_X0_60 i_X0_perform s_X0_perform rfl (by decide) rfl (Nat.lt_of_lt_of_le (by decide) hN) rfl rfl rfl (Nat.le_of_ble_eq_true rfl) (Nat.le_of_ble_eq_true rfl) (Nat.le_refl _) (x_perform (d := d) (dd := f i) (i := i) (w := lotS l % 10) (hf i (by omega)) hN hR hk hq hLN (hX.keep2 (BF2.up I _ (by decide))) hO (hD.o _ (by decide)) (fun I3 f3 d3 => ?_))
        refine E_aload_n dX0_follow_57 rfl ?_
        refine E_getR dX0_follow_58 f_X0_12 rfl (Nat.lt_of_lt_of_le (by decide) hN) rfl (hR _ _ _ rfl) ?_
        refine E_getI dX0_follow_61 f_X0_55 rfl (Nat.lt_of_lt_of_le (by decide) hN) rfl ?_
        refine E.top (d3.2.2 5 (by decide)) ?_
        refine E_zN_eq (a := (ddS q k LN Y S (f i) i (lotS l % 10) D) 5) (tgt := 72) dX0_follow_64 (by omega) (by decide) (fun cw64 => absurd cw64 (by omega)) (fun cw64 => ?_)
        refine E_aload_n dX0_follow_67 rfl ?_
        refine E_iload_n dX0_follow_68 rfl ?_
        refine E_putI dX0_follow_69 f_X0_45 rfl (Nat.lt_of_lt_of_le (by decide) hN) rfl ?_
        refine E_incN dX0_follow_72 rfl ?_
        refine E_goto (tgt := 2) dX0_follow_75 (by decide) ?_
        rw [rnS_t h5, if_neg hn5] at hQ
        exact ih (i + 1) _ (lotS l) _ (up2 I3 22 7 (nI i)) (by omega) (hX.keep2 (((BF2.up I (nI (lotS l)) (by decide)).trans (BF2.of f3)).trans (BF2.up I3 (nI i) (by decide)))) (ddS_ok hO) (d3.o (nI i) (by decide)) (by unfold lotS; omega) ((up2_k _ _ (by decide)).trans ((f3.2 5 (by decide) (by decide)).trans (up2_s _ _ _ _))) (up2_s _ _ _ _) (fun j hj => (congrFun ((((BF2.up I (nI (lotS l)) (by decide)).trans (BF2.of f3)).trans (BF2.up I3 (nI i) (by decide))).1 21 (by decide) (by decide) (by decide) (by decide)) j).trans (hI j hj)) (fun I4 f4 a4 b4 c4 => hQ I4 ((((BF2.up I (nI (lotS l)) (by decide)).trans (BF2.of f3)).trans (BF2.up I3 (nI i) (by decide))).trans f4) a4 b4 c4)
    · skip
      refine E_iload_n dX0_follow_2 rfl ?_
      refine E_iload_n dX0_follow_3 rfl ?_
      refine E_cN_ge (a := i) (b := m) (tgt := 78) dX0_follow_4 (by omega) (by omega) (by decide) (fun cw4 => absurd cw4 (by omega)) (fun cw4 => ?_)
      refine E_iload_n dX0_follow_7 rfl ?_
      refine E_aload_n dX0_follow_8 rfl ?_
      refine E_alen dX0_follow_9 rfl (Nat.lt_of_lt_of_le (by decide) hN) (by decide) (by decide) ?_
      refine E.top (show _ = nI 96 from rfl) ?_
      refine E_cN_ge (a := i) (b := 96) (tgt := 78) dX0_follow_10 (by omega) (by decide) (by decide) (fun cw10 => absurd cw10 (by omega)) (fun cw10 => ?_)
      refine E_aload_n dX0_follow_13 rfl ?_
      refine E_getR dX0_follow_14 f_X0_12 rfl (Nat.lt_of_lt_of_le (by decide) hN) rfl (hR _ _ _ rfl) ?_
      refine E_getI dX0_follow_17 f_X0_55 rfl (Nat.lt_of_lt_of_le (by decide) hN) rfl ?_
      refine E.top (hD.2.2 5 (by decide)) ?_
      refine E_zN_ne (a := D 5) (tgt := 78) dX0_follow_20 (by omega) (by decide) (fun cw20 => ?_) (fun cw20 => absurd cw20 (by omega))
      exact E_ret dX0_follow_78 rfl (by rw [rnS_f h5] at hQ; exact hQ I (⟨fun _ _ _ _ _ => rfl, rfl⟩) hD hl hb)
set_option maxRecDepth 100000 in
set_option maxHeartbeats 2000000 in
theorem x_followA {m : Nat} {f : FN} {l : Nat} {b : Int32} (hN : 152 ≤ n) (hR : RS R) (hk : k < 12) (hq : LWF q) (hLN : LN ≤ 24) (hm : m ≤ 96) (hf : ∀ i, i < m → f i < 6) (hX : BXc k LN Y S q I R) (hO : okD LN D) (hD : BDc D I) (hl2 : l ≤ 65535) (hl : I 22 5 = nI l) (hb : I 22 7 = b) (hI : ∀ j, j < m → I 21 j = nI (f j)) (hQ : ∀ I2 : IM, BF2 I I2 → BDc (rnS q k LN Y S f m 0 D l b).1 I2 → I2 22 5 = nI (rnS q k LN Y S f m 0 D l b).2.1 → I2 22 7 = (rnS q k LN Y S f m 0 D l b).2.2 → Q none n I2 J R) : E g mX0_follow (d + 6) 0 0 0 (ent 4 [.ref 22, .ref 21, .int (nI m)]) [] n I J R Q := by
  refine E_ic (nI 0) dX0_follow_0 (by decide) ?_
  refine E_istore_n dX0_follow_1 (Nat.le_of_ble_eq_true rfl) ?_
  exact x_follow (d := d) hN hR hk hq hLN hm hf m 0 D l b I (Nat.zero_add m) hX hO hD hl2 hl hb hI hQ
set_option maxRecDepth 100000 in
set_option maxHeartbeats 2000000 in
theorem x_rehearse {m : Nat} (hN : 152 ≤ n) (hB : BND σ) (hX : XR σ n I R) (hq : LWF q) (hl : LXq q I) (hk : k < 12) (hm : m ≤ σ 9 0 0) (hQ : match rdS 0 96 m (ccS (tpS σ) m) with | .inl z => ∀ (I2 : IM) (R2 : RM), XN n R2 → (∀ x, x ≠ 20 → x ≠ 21 → x ≠ 9 → x ≠ 10 → x ≠ 22 → x ≠ 23 → I2 x = (up2 I 0 2 (nI 0)) x) → Q (some (.int z)) n I2 J R2 | .inr r => ∀ (I2 : IM) (R2 : RM), XN n R2 → (∀ x, x ≠ 20 → x ≠ 21 → x ≠ 9 → x ≠ 10 → x ≠ 22 → x ≠ 23 → I2 x = (up2 I 0 2 (nI 0)) x) → R2 22 1 = some (54 + 5 * k) → BDc (rnQ q σ k r).1 I2 → I2 22 5 = nI (rnQ q σ k r).2.1 → I2 22 7 = (rnQ q σ k r).2.2 → Q (some (.int (nI 0))) n I2 J R2) : E g mX11_rehearse (d + 13) 0 0 0 (ent 4 [.ref 0, .int (nI k), .int (nI m)]) [] n I J R Q := by
  have hR := hX.2.2.2.1.1
  have b9 : σ 9 0 0 ≤ 260 := hB.2.2.2.2.2.1
  have hc := tp_okc hB hm
  have w4 := (hB.1 k hk).2.2.1
  have hR1 : RS (up2 R 20 1 (some 2)) := RS.up hR rfl
  have hR2 : RS (up2 (up2 (up2 R 20 1 (some 2)) 22 1 (some (54 + 5 * k))) 22 2 (some 3)) := RS.up (RS.up hR1 rfl) rfl
  have hXN1 : XN n (up2 R 20 1 (some 2)) := ⟨hR1, hX.2.2.2.1.2.elim (fun z => Or.inl z) (fun z => Or.inr z)⟩
  have hXN2 : XN n (up2 (up2 (up2 R 20 1 (some 2)) 22 1 (some (54 + 5 * k))) 22 2 (some 3)) := ⟨hR2, hX.2.2.2.1.2.elim (fun z => Or.inl z) (fun z => Or.inr z)⟩
  have fb : ∀ (I4 : IM), RFx (up2 (up2 (up2 (up2 (up2 (up2 (up2 I 0 2 (nI 0)) 20 2 (nI m)) 20 3 (nI 0)) 20 4 (nI 0)) 20 6 (nI 0)) 20 7 (nI 0)) 20 5 (nI 96)) I4 → ∀ x, x ≠ 20 → x ≠ 21 → I4 x = (up2 I 0 2 (nI 0)) x := fun I4 f4 x h1 h2 => (f4.1 x h1 h2).trans (by rw [up2_o _ 20 _ _ x h1, up2_o _ 20 _ _ x h1, up2_o _ 20 _ _ x h1, up2_o _ 20 _ _ x h1, up2_o _ 20 _ _ x h1, up2_o _ 20 _ _ x h1])
  refine E_aload_n dX11_rehearse_0 rfl ?_
  refine E_ic (nI 0) dX11_rehearse_1 (by decide) ?_
  refine E_putI dX11_rehearse_2 f_X11_19 rfl (Nat.lt_of_lt_of_le (by decide) hN) rfl ?_
  refine E_aload_n dX11_rehearse_5 rfl ?_
  refine E_getR dX11_rehearse_6 f_X11_40 rfl (Nat.lt_of_lt_of_le (by decide) hN) rfl (hR _ _ _ rfl) ?_
  refine E_aload_n dX11_rehearse_9 rfl ?_
  refine E_getR dX11_rehearse_10 f_X11_15 rfl (Nat.lt_of_lt_of_le (by decide) hN) rfl (hR _ _ _ rfl) ?_
  refine E_iload_n dX11_rehearse_13 rfl ?_
  refine E_ic (nI 0) dX11_rehearse_14 (by decide) ?_
  refine E_callV (As := [_, _, _]) (ci := 6) (kc' := 0) (ks' := 0) (kc := 0) (ks := 0) dX11_rehearse_15 ok_X7_read w_X11_128 i_X7_read s_X7_read rfl (by decide) rfl (Nat.lt_of_lt_of_le (by decide) hN) rfl rfl rfl (Nat.le_of_ble_eq_true rfl) (Nat.le_of_ble_eq_true rfl) (Nat.le_refl _) (x_read0 (d := d) hN hR hc (by omega) (fun j hj => hX.2.2.1 j (by omega)) ?_)
  cases hr : rdS 0 96 m (ccS (tpS σ) m) with
  | inl z =>
    rw [hr] at hQ
    intro I4 f4
    refine E_istore_n dX11_rehearse_18 (Nat.le_of_ble_eq_true rfl) ?_
    refine E_iload_n dX11_rehearse_19 rfl ?_
    refine E_if_ge (tgt := 25) dX11_rehearse_20 (by decide) (fun cw20 => by first | exact absurd cw20 (fun y => absurd (rd_neg hc (by omega) hr) (Int32.not_lt.mpr y)) | exact absurd (fun y => absurd (rd_neg hc (by omega) hr) (Int32.not_lt.mpr y)) cw20) (fun cw20 => ?_)
    refine E_iload_n dX11_rehearse_23 rfl ?_
    exact E_iret dX11_rehearse_24 rfl (hQ I4 _ hXN1 (fun x h1 h2 _ _ _ _ => fb I4 f4 x h1 h2))
  | inr r =>
    rw [hr] at hQ
    obtain ⟨⟨a1, a2, a3, a4, a5⟩, _⟩ := rd_ok hc hr
    intro I4 f4 i4
    refine E_istore_n dX11_rehearse_18 (Nat.le_of_ble_eq_true rfl) ?_
    refine E_iload_n dX11_rehearse_19 rfl ?_
    refine E_zN_ge (a := r.2.1) (tgt := 25) dX11_rehearse_20 (by omega) (by decide) (fun cw20 => ?_) (fun cw20 => cw20.elim)
    refine E_aload_n dX11_rehearse_25 rfl ?_
    refine E_getR dX11_rehearse_26 f_X11_47 rfl (Nat.lt_of_lt_of_le (by decide) hN) rfl (hR1 _ _ _ rfl) ?_
    refine E_iload_n dX11_rehearse_29 rfl ?_
    refine E_aload_n dX11_rehearse_30 rfl ?_
    refine E_getR dX11_rehearse_31 f_X11_11 rfl (Nat.lt_of_lt_of_le (by decide) hN) rfl (hR1 _ _ _ rfl) ?_
    refine E_iload_n dX11_rehearse_34 rfl ?_
    refine E_aaldN dX11_rehearse_35 rfl (Nat.lt_of_lt_of_le (by decide) hN) (by first | assumption | omega) (hR1 _ _ _ (RT1 k (by first | assumption | omega))) ?_
    refine E_aload_n dX11_rehearse_36 rfl ?_
    refine E_getR dX11_rehearse_37 f_X11_26 rfl (Nat.lt_of_lt_of_le (by decide) hN) rfl (hR1 _ _ _ rfl) ?_
    refine E_aload_n dX11_rehearse_40 rfl ?_
    refine E_getI dX11_rehearse_41 f_X11_86 rfl (Nat.lt_of_lt_of_le (by decide) hN) rfl ?_
    refine E.top ((congrFun (fb I4 f4 0 (by decide) (by decide)) 13).trans hX.2.1.2.1) ?_
    refine E_aload_n dX11_rehearse_44 rfl ?_
    refine E_getI dX11_rehearse_45 f_X11_92 rfl (Nat.lt_of_lt_of_le (by decide) hN) rfl ?_
    refine E.top ((congrFun (fb I4 f4 0 (by decide) (by decide)) 15).trans hX.2.1.2.2.2.1) ?_
    refine E_callV (As := [_, _, _, _, _]) (ci := 0) (kc' := 0) (ks' := 0) (kc := 0) (ks := 0) dX11_rehearse_48 ok_X0_begin w_X11_215 i_X0_begin s_X0_begin rfl (by decide) rfl (Nat.lt_of_lt_of_le (by decide) hN) rfl rfl rfl (Nat.le_of_ble_eq_true rfl) (Nat.le_of_ble_eq_true rfl) (Nat.le_refl _) (x_begin (d := d + 11) (sc := σ 4 0 0) (l := σ 4 2 0) (s := σ 3 k) hN hR1 hk (fun j hj => (congrFun (fb I4 f4 (57 + 5 * k) (by omega) (by omega)) j).trans ((congrFun (up2_o I 0 2 _ (57 + 5 * k) (by omega)) j).trans ((hX.1 k hk).2.2.2.1 j hj))) w4.2.2.2.2.1 w4.2.2.2.2.2.1 (fun I5 f5 k5 d5 l5 b5 => ?_))
    have hB5 : BXc k (σ 0 k 0) (σ 1 k) (σ 2 k) q I5 (up2 (up2 (up2 R 20 1 (some 2)) 22 1 (some (54 + 5 * k))) 22 2 (some 3)) := ⟨rfl, rfl, k5, (congrFun ((f5 (54 + 5 * k) (by omega) (by omega)).trans ((fb I4 f4 (54 + 5 * k) (by omega) (by omega)).trans (up2_o I 0 2 _ (54 + 5 * k) (by omega)))) 4).trans (hX.1 k hk).1, fun i hi => by rw [f5 (55 + 5 * k) (by omega) (by omega), fb I4 f4 (55 + 5 * k) (by omega) (by omega), up2_o I 0 2 _ (55 + 5 * k) (by omega), f5 (56 + 5 * k) (by omega) (by omega), fb I4 f4 (56 + 5 * k) (by omega) (by omega), up2_o I 0 2 _ (56 + 5 * k) (by omega)]; exact (hX.1 k hk).2.2.1 i hi, hl.keep (fun a a1 a2 => (f5 a (by omega) (by omega)).trans ((fb I4 f4 a (by omega) (by omega)).trans (up2_o I 0 2 _ a (by omega))))⟩
    refine E_aload_n dX11_rehearse_51 rfl ?_
    refine E_getR dX11_rehearse_52 f_X11_47 rfl (Nat.lt_of_lt_of_le (by decide) hN) rfl (hR2 _ _ _ rfl) ?_
    refine E_aload_n dX11_rehearse_55 rfl ?_
    refine E_getR dX11_rehearse_56 f_X11_40 rfl (Nat.lt_of_lt_of_le (by decide) hN) rfl (hR2 _ _ _ rfl) ?_
    refine E_getR dX11_rehearse_59 f_X11_131 rfl (Nat.lt_of_lt_of_le (by decide) hN) rfl (hR2 _ _ _ rfl) ?_
    refine E_iload_n dX11_rehearse_62 rfl ?_
    refine E_callV (As := [_, _]) (ci := 0) (kc' := 0) (ks' := 0) (kc := 0) (ks := 0) dX11_rehearse_63 ok_X0_follow w_X11_332 i_X0_follow s_X0_follow rfl (by decide) rfl (Nat.lt_of_lt_of_le (by decide) hN) rfl rfl rfl (Nat.le_of_ble_eq_true rfl) (Nat.le_of_ble_eq_true rfl) (Nat.le_refl _) (x_followA (d := d + 6) (f := r.2.2) hN hR2 hk hq (hB.1 k hk).1 a4 (fun i hi => a5 i hi) hB5 (bgD_ok hB hk) d5 hB.2.1.2.2 l5 b5 (fun j hj => (congrFun (f5 21 (by decide) (by decide)) j).trans (i4 j hj (by omega))) (fun I6 f6 d6 l6 b6 => ?_))
    refine E_ic (nI 0) dX11_rehearse_66 (by decide) ?_
    exact E_iret dX11_rehearse_67 rfl (hQ I6 _ hXN2 (fun x h1 h2 h3 h4 h5 h6 => (f6.1 x h3 h4 h5 h6).trans ((f5 x h5 h6).trans (fb I4 f4 x h1 h2))) rfl d6 l6 b6)
end PDraw
