/-! ===== deeds, the reference ===== -/
def MCr (k LN : Nat) (Y S : FN) (q : LWD) (I : IM) : Prop := I 118 k = nI LN ∧ (∀ i, i < LN → I 119 (24 * k + i) = nI (Y i) ∧ I 120 (24 * k + i) = nI (S i)) ∧ LMq q I
/-- how he stands; and, if the screw is worn, the rest -/
def MDr (k wr c0 : Nat) (Y D : FN) (I : IM) : Prop := (I 115 k = nI (D 0) ∧ I 115 (12 + k) = nI (D 1) ∧ I 115 (24 + k) = nI (D 2) ∧ I 115 (60 + k) = nI (D 3) ∧ I 115 (36 + k) = nI (D 4) ∧ I 115 (48 + k) = nI (D 5)) ∧ (wr = 1 → I 115 72 = nI (D 6) ∧ I 114 40 = nI (D 7) ∧ I 115 73 = nI (min 9999 (c0 + D 7)) ∧ I 114 41 = if D 7 = 0 then -2 else nI (Y (D 3 - 1)))
def MFr (k wr : Nat) (I I' : IM) : Prop := (∀ x, x ≠ 114 → x ≠ 115 → x ≠ 133 → x ≠ 134 → I' x = I x) ∧ (∀ j, j ≠ 40 → j ≠ 41 → I' 114 j = I 114 j) ∧ (∀ j, j < 72 → j % 12 ≠ k → I' 115 j = I 115 j) ∧ I' 115 74 = I 115 74 ∧ (wr = 0 → I' 115 72 = I 115 72)
theorem MFr.refl (k wr : Nat) (I : IM) : MFr k wr I I := ⟨fun _ _ _ _ _ => rfl, fun _ _ _ => rfl, fun _ _ _ => rfl, rfl, fun _ => rfl⟩
theorem MFr.trans {k wr : Nat} {I I' I2 : IM} (h : MFr k wr I I') (h2 : MFr k wr I' I2) : MFr k wr I I2 := ⟨fun x a b c d => (h2.1 x a b c d).trans (h.1 x a b c d), fun j a b => (h2.2.1 j a b).trans (h.2.1 j a b), fun j a b => (h2.2.2.1 j a b).trans (h.2.2.1 j a b), h2.2.2.2.1.trans h.2.2.2.1, fun z => (h2.2.2.2.2 z).trans (h.2.2.2.2 z)⟩
theorem LMq.keep {q : LWD} {I I' : IM} (h : LMq q I) (h2 : I' 114 16 = I 114 16) (e : ∀ a, 128 ≤ a → a ≤ 132 → I' a = I a) : LMq q I' := ⟨h2.trans h.1, fun r hr => by rw [e 129 (by decide) (by decide), e 130 (by decide) (by decide), e 131 (by decide) (by decide), e 132 (by decide) (by decide)]; exact h.2.1 r hr, fun i hi => by rw [e 128 (by decide) (by decide)]; exact h.2.2 i hi⟩
theorem MCr.keep {k wr LN : Nat} {Y S : FN} {q : LWD} {I I' : IM} (h : MCr k LN Y S q I) (f : MFr k wr I I') : MCr k LN Y S q I' := ⟨(congrFun (f.1 118 (by decide) (by decide) (by decide) (by decide)) k).trans h.1, fun i hi => by rw [f.1 119 (by decide) (by decide) (by decide) (by decide), f.1 120 (by decide) (by decide) (by decide) (by decide)]; exact h.2.1 i hi, h.2.2.keep (f.2.1 16 (by decide) (by decide)) (fun a a1 a2 => f.1 a (by omega) (by omega) (by omega) (by omega))⟩
theorem MFr.row {k wr : Nat} {I I' : IM} {a : Nat} (h : ∀ x, x ≠ a → I' x = I x) (ha : a = 133 ∨ a = 134) : MFr k wr I I' := ⟨fun x _ _ h3 h4 => h x (by omega), fun j _ _ => congrFun (h 114 (by omega)) j, fun j _ _ => congrFun (h 115 (by omega)) j, congrFun (h 115 (by omega)) 74, fun _ => congrFun (h 115 (by omega)) 72⟩
theorem MFr.at {k wr : Nat} (I : IM) {j : Nat} (v : Int32) (hj : j < 72) (hm : j % 12 = k) : MFr k wr I (up2 I 115 j v) := ⟨fun x _ h2 _ _ => up2_o I 115 j v x h2, fun i _ _ => congrFun (up2_o I 115 j v 114 (by decide)) i, fun i h1 h2 => up2_k I v (fun z => h2 (by rw [z]; exact hm)), up2_k I v (by omega), fun _ => up2_k I v (by omega)⟩
theorem MFr.told {k wr : Nat} (I : IM) (v : Int32) : MFr k wr I (up2 I 115 73 v) := ⟨fun x _ h2 _ _ => up2_o I 115 73 v x h2, fun i _ _ => congrFun (up2_o I 115 73 v 114 (by decide)) i, fun i h1 h2 => up2_k I v (by omega), up2_k I v (by decide), fun _ => up2_k I v (by decide)⟩
theorem MFr.screw {k : Nat} (I : IM) (v : Int32) : MFr k 1 I (up2 I 115 72 v) := ⟨fun x _ h2 _ _ => up2_o I 115 72 v x h2, fun i _ _ => congrFun (up2_o I 115 72 v 114 (by decide)) i, fun i h1 h2 => up2_k I v (by omega), up2_k I v (by decide), fun z => absurd z (by decide)⟩
theorem MFr.fld {k wr : Nat} (I : IM) {j : Nat} (v : Int32) (hj : j = 40 ∨ j = 41) : MFr k wr I (up2 I 114 j v) := ⟨fun x h1 _ _ _ => up2_o I 114 j v x h1, fun i h1 h2 => up2_k I v (by omega), fun i _ _ => congrFun (up2_o I 114 j v 115 (by decide)) i, congrFun (up2_o I 114 j v 115 (by decide)) 74, fun _ => congrFun (up2_o I 114 j v 115 (by decide)) 72⟩
theorem MDr.row {k wr c0 : Nat} {Y D : FN} {I I' : IM} (h : MDr k wr c0 Y D I) (h4 : I' 114 = I 114) (h5 : I' 115 = I 115) : MDr k wr c0 Y D I' := by
  unfold MDr at h ⊢
  rw [h4, h5]
  exact h
theorem MDr.st {k wr c0 j q v : Nat} {Y D : FN} {I : IM} (hk : k < 12) (h : MDr k wr c0 Y D I) (hj : (j = 0 ∧ q = k) ∨ (j = 1 ∧ q = 12 + k) ∨ (j = 2 ∧ q = 24 + k) ∨ (j = 4 ∧ q = 36 + k) ∨ (j = 5 ∧ q = 48 + k)) : MDr k wr c0 Y (up1 D j v) (up2 I 115 q (nI v)) ∧ MFr k wr I (up2 I 115 q (nI v)) := by
  obtain ⟨⟨a0, a1, a2, a3, a4, a5⟩, b⟩ := h
  have hq : q < 72 ∧ q % 12 = k := by omega
  refine ⟨⟨⟨?_, ?_, ?_, ?_, ?_, ?_⟩, fun z => ⟨?_, ?_, ?_, ?_⟩⟩, MFr.at I _ hq.1 hq.2⟩
  · rcases hj with ⟨rfl, rfl⟩ | ⟨rfl, rfl⟩ | ⟨rfl, rfl⟩ | ⟨rfl, rfl⟩ | ⟨rfl, rfl⟩
    · exact up2_s _ _ _ _
    all_goals (rw [up2_k _ _ (by omega)]; exact a0)
  · rcases hj with ⟨rfl, rfl⟩ | ⟨rfl, rfl⟩ | ⟨rfl, rfl⟩ | ⟨rfl, rfl⟩ | ⟨rfl, rfl⟩
    · rw [up2_k _ _ (by omega)]; exact a1
    · exact up2_s _ _ _ _
    all_goals (rw [up2_k _ _ (by omega)]; exact a1)
  · rcases hj with ⟨rfl, rfl⟩ | ⟨rfl, rfl⟩ | ⟨rfl, rfl⟩ | ⟨rfl, rfl⟩ | ⟨rfl, rfl⟩
    · rw [up2_k _ _ (by omega)]; exact a2
    · rw [up2_k _ _ (by omega)]; exact a2
    · exact up2_s _ _ _ _
    all_goals (rw [up2_k _ _ (by omega)]; exact a2)
  · rw [up2_k _ _ (by omega), up1_n (by omega)]
    exact a3
  · rcases hj with ⟨rfl, rfl⟩ | ⟨rfl, rfl⟩ | ⟨rfl, rfl⟩ | ⟨rfl, rfl⟩ | ⟨rfl, rfl⟩
    · rw [up2_k _ _ (by omega)]; exact a4
    · rw [up2_k _ _ (by omega)]; exact a4
    · rw [up2_k _ _ (by omega)]; exact a4
    · exact up2_s _ _ _ _
    · rw [up2_k _ _ (by omega)]; exact a4
  · rcases hj with ⟨rfl, rfl⟩ | ⟨rfl, rfl⟩ | ⟨rfl, rfl⟩ | ⟨rfl, rfl⟩ | ⟨rfl, rfl⟩
    · rw [up2_k _ _ (by omega)]; exact a5
    · rw [up2_k _ _ (by omega)]; exact a5
    · rw [up2_k _ _ (by omega)]; exact a5
    · rw [up2_k _ _ (by omega)]; exact a5
    · exact up2_s _ _ _ _
  · rw [up2_k _ _ (by omega), up1_n (by omega)]
    exact (b z).1
  · rw [up2_o _ 115 _ _ 114 (by decide), up1_n (by omega)]
    exact (b z).2.1
  · rw [up2_k _ _ (by omega), up1_n (by omega)]
    exact (b z).2.2.1
  · rw [up2_o _ 115 _ _ 114 (by decide), up1_n (show 7 ≠ j by omega), up1_n (show 3 ≠ j by omega)]
    exact (b z).2.2.2
theorem cm_0 {LN m : Nat} {D : FN} (h : min m (LN - D 3) = 0) : cmD LN m D = D := by
  funext x
  unfold cmD up1
  rw [h]
  by_cases e : x = 7
  · rw [if_pos e, e]; rfl
  · rw [if_neg e]
    by_cases e2 : x = 3
    · rw [if_pos e2, e2]; rfl
    · rw [if_neg e2]
theorem cm_s {LN m : Nat} {D : FN} (h : m + 1 ≤ LN - D 3) : cmD LN 1 (cmD LN m D) = cmD LN (m + 1) D := by
  have e3 : cmD LN m D 3 = D 3 + m := by show D 3 + min m (LN - D 3) = _; rw [Nat.min_eq_left (by omega)]
  have e7 : cmD LN m D 7 = D 7 + m := by show D 7 + min m (LN - D 3) = _; rw [Nat.min_eq_left (by omega)]
  funext x
  show up1 (up1 (cmD LN m D) 3 (cmD LN m D 3 + min 1 (LN - cmD LN m D 3))) 7 (cmD LN m D 7 + min 1 (LN - cmD LN m D 3)) x = up1 (up1 D 3 (D 3 + min (m + 1) (LN - D 3))) 7 (D 7 + min (m + 1) (LN - D 3)) x
  rw [e3, e7, Nat.min_eq_left (show 1 ≤ LN - (D 3 + m) by omega), Nat.min_eq_left (show m + 1 ≤ LN - D 3 by omega)]
  unfold up1
  by_cases a : x = 7
  · rw [if_pos a, if_pos a]; omega
  · rw [if_neg a, if_neg a]
    by_cases b : x = 3
    · rw [if_pos b, if_pos b]; omega
    · rw [if_neg b, if_neg b]
      show up1 (up1 D 3 _) 7 _ x = D x
      rw [up1_n a, up1_n b]
theorem cm_m {LN a : Nat} {D : FN} : cmD LN (min a (LN - D 3)) D = cmD LN a D := by
  unfold cmD
  rw [show min (min a (LN - D 3)) (LN - D 3) = min a (LN - D 3) by omega]
section PDeedsM
variable {g : GL} {d n : Nat} {I : IM} {J : JM} {R : RM} {Q : PQ} {k LN i w c0 : Nat} {Y S D : FN} {q : LWD}
set_option maxRecDepth 100000 in
set_option maxHeartbeats 2000000 in
theorem m_lftD {wr : Nat} (hN : 152 ≤ n) (hR : RS R) (hk : k < 12) (hX : MCr k LN Y S q I) (o3 : D 3 ≤ LN) (hD : MDr k wr c0 Y D I) (hQ : Q (some (.int (nI (LN - D 3)))) n I J R) : E g mX12_leftOf d 0 0 0 (ent 2 [.ref 114, .int (nI k)]) [] n I J R Q := by
  refine E_aload_n dX12_leftOf_0 rfl ?_
  refine E_getR dX12_leftOf_1 f_X12_19 rfl (Nat.lt_of_lt_of_le (by decide) hN) rfl (hR _ _ _ rfl) ?_
  refine E_iload_n dX12_leftOf_4 rfl ?_
  refine E_ialdN dX12_leftOf_5 rfl (Nat.lt_of_lt_of_le (by decide) hN) (by omega) ?_
  refine E.top (hX.1) ?_
  refine E_aload_n dX12_leftOf_6 rfl ?_
  refine E_getR dX12_leftOf_7 f_X12_7 rfl (Nat.lt_of_lt_of_le (by decide) hN) rfl (hR _ _ _ rfl) ?_
  refine E_bp (nI 60) dX12_leftOf_10 (by decide) ?_
  refine E_iload_n dX12_leftOf_12 rfl ?_
  refine E_iadd dX12_leftOf_13 ?_
  refine E.top (nI_add 60 k) ?_
  refine E_ialdN dX12_leftOf_14 rfl (Nat.lt_of_lt_of_le (by decide) hN) (by omega) ?_
  refine E.top (hD.1.2.2.2.1) ?_
  refine E_isub dX12_leftOf_15 ?_
  refine E.top (pk_sub (a := LN) (b := D 3) (by omega)) ?_
  exact E_iret dX12_leftOf_16 rfl (hQ)
set_option maxRecDepth 100000 in
set_option maxHeartbeats 2000000 in
theorem m_feels1 (hN : 152 ≤ n) (hR : RS R) (hk : k < 12) (hq : LWF q) (hLN : LN ≤ 24) (hX : MCr k LN Y S q I) (hO : okD LN D) (hD : MDr k 1 c0 Y D I) (hQ : ∀ I2 : IM, (∀ x, x ≠ 134 → I2 x = I x) → (∀ j, j < 9 → I2 134 j = fcI k LN Y S D i w j) → Q none n I2 J R) : E g mX12_feels (d + 1) 0 0 0 (ent 5 [.ref 114, .int (nI k), .int (nI i), .int (nI w)]) [] n I J R Q := by
  obtain ⟨o0, o1, o2, o3, o4, o5, o6, o7, o8, o9⟩ := hO
  by_cases hin : D 3 < LN
  · skip
    refine E_aload_n dX12_feels_0 rfl ?_
    refine E_iload_n dX12_feels_1 rfl ?_
    refine E_callV (As := [_]) (ci := 11) (kc' := 0) (ks' := 0) (kc := 0) (ks := 0) dX12_feels_2 ok_X12_leftOf w_X12_286 i_X12_leftOf s_X12_leftOf rfl (by decide) rfl (Nat.lt_of_lt_of_le (by decide) hN) rfl rfl rfl (Nat.le_of_ble_eq_true rfl) (Nat.le_of_ble_eq_true rfl) (Nat.le_refl _) (m_lftD (d := d) (D := D) hN hR hk hX o3 hD ?_)
    refine E_zN_le (a := LN - D 3) (tgt := 12) dX12_feels_5 (by omega) (by decide) (fun cw5 => absurd cw5 (by omega)) (fun cw5 => ?_)
    refine E_ic (nI 1) dX12_feels_8 (by decide) ?_
    refine E_goto (tgt := 13) dX12_feels_9 (by decide) ?_
    refine E_istore dX12_feels_13 (Nat.le_of_ble_eq_true rfl) ?_
    refine E_aload_n dX12_feels_15 rfl ?_
    refine E_getR dX12_feels_16 f_X12_68 rfl (Nat.lt_of_lt_of_le (by decide) hN) rfl (hR _ _ _ rfl) ?_
    refine E_ic (nI 0) dX12_feels_19 (by decide) ?_
    refine E_iload_n dX12_feels_20 rfl ?_
    refine E_iastN dX12_feels_21 rfl (Nat.lt_of_lt_of_le (by decide) hN) (by decide) ?_
    refine E_aload_n dX12_feels_22 rfl ?_
    refine E_getR dX12_feels_23 f_X12_68 rfl (Nat.lt_of_lt_of_le (by decide) hN) rfl (hR _ _ _ rfl) ?_
    refine E_ic (nI 1) dX12_feels_26 (by decide) ?_
    refine E_aload_n dX12_feels_27 rfl ?_
    refine E_iload_n dX12_feels_28 rfl ?_
    refine E_callV (As := [_]) (ci := 11) (kc' := 0) (ks' := 0) (kc := 0) (ks := 0) dX12_feels_29 ok_X12_leftOf w_X12_286 i_X12_leftOf s_X12_leftOf rfl (by decide) rfl (Nat.lt_of_lt_of_le (by decide) hN) rfl rfl rfl (Nat.le_of_ble_eq_true rfl) (Nat.le_of_ble_eq_true rfl) (Nat.le_refl _) (m_lftD (d := d) (D := D) hN hR hk (hX.keep (wr := 1) (MFr.row (a := 134) (fun x hx => (up2_o _ 134 _ _ x hx)) (by decide))) o3 (hD.row (up2_o _ 134 _ _ 114 (by decide)) (up2_o _ 134 _ _ 115 (by decide))) ?_)
    refine E_iastN dX12_feels_32 rfl (Nat.lt_of_lt_of_le (by decide) hN) (by decide) ?_
    refine E_aload_n dX12_feels_33 rfl ?_
    refine E_getR dX12_feels_34 f_X12_68 rfl (Nat.lt_of_lt_of_le (by decide) hN) rfl (hR _ _ _ rfl) ?_
    refine E_ic (nI 2) dX12_feels_37 (by decide) ?_
    refine E_aload_n dX12_feels_38 rfl ?_
    refine E_getR dX12_feels_39 f_X12_7 rfl (Nat.lt_of_lt_of_le (by decide) hN) rfl (hR _ _ _ rfl) ?_
    refine E_ic (nI 0) dX12_feels_42 (by decide) ?_
    refine E_iload_n dX12_feels_43 rfl ?_
    refine E_iadd dX12_feels_44 ?_
    refine E.top (nI_add 0 k) ?_
    refine E.top (congrArg nI (Nat.zero_add k)) ?_
    refine E_ialdN dX12_feels_45 rfl (Nat.lt_of_lt_of_le (by decide) hN) (by omega) ?_
    refine E.top ((hD.row ((up2_o _ 134 _ _ 114 (by decide)).trans (up2_o _ 134 _ _ 114 (by decide))) ((up2_o _ 134 _ _ 115 (by decide)).trans (up2_o _ 134 _ _ 115 (by decide)))).1.1) ?_
    refine E_iastN dX12_feels_46 rfl (Nat.lt_of_lt_of_le (by decide) hN) (by decide) ?_
    refine E_aload_n dX12_feels_47 rfl ?_
    refine E_getR dX12_feels_48 f_X12_68 rfl (Nat.lt_of_lt_of_le (by decide) hN) rfl (hR _ _ _ rfl) ?_
    refine E_ic (nI 3) dX12_feels_51 (by decide) ?_
    refine E_aload_n dX12_feels_52 rfl ?_
    refine E_getR dX12_feels_53 f_X12_7 rfl (Nat.lt_of_lt_of_le (by decide) hN) rfl (hR _ _ _ rfl) ?_
    refine E_bp (nI 12) dX12_feels_56 (by decide) ?_
    refine E_iload_n dX12_feels_58 rfl ?_
    refine E_iadd dX12_feels_59 ?_
    refine E.top (nI_add 12 k) ?_
    refine E_ialdN dX12_feels_60 rfl (Nat.lt_of_lt_of_le (by decide) hN) (by omega) ?_
    refine E.top ((hD.row ((up2_o _ 134 _ _ 114 (by decide)).trans ((up2_o _ 134 _ _ 114 (by decide)).trans (up2_o _ 134 _ _ 114 (by decide)))) ((up2_o _ 134 _ _ 115 (by decide)).trans ((up2_o _ 134 _ _ 115 (by decide)).trans (up2_o _ 134 _ _ 115 (by decide))))).1.2.1) ?_
    refine E_iastN dX12_feels_61 rfl (Nat.lt_of_lt_of_le (by decide) hN) (by decide) ?_
    refine E_aload_n dX12_feels_62 rfl ?_
    refine E_getR dX12_feels_63 f_X12_68 rfl (Nat.lt_of_lt_of_le (by decide) hN) rfl (hR _ _ _ rfl) ?_
    refine E_ic (nI 4) dX12_feels_66 (by decide) ?_
    refine E_aload_n dX12_feels_67 rfl ?_
    refine E_getR dX12_feels_68 f_X12_7 rfl (Nat.lt_of_lt_of_le (by decide) hN) rfl (hR _ _ _ rfl) ?_
    refine E_bp (nI 24) dX12_feels_71 (by decide) ?_
    refine E_iload_n dX12_feels_73 rfl ?_
    refine E_iadd dX12_feels_74 ?_
    refine E.top (nI_add 24 k) ?_
    refine E_ialdN dX12_feels_75 rfl (Nat.lt_of_lt_of_le (by decide) hN) (by omega) ?_
    refine E.top ((hD.row ((up2_o _ 134 _ _ 114 (by decide)).trans ((up2_o _ 134 _ _ 114 (by decide)).trans ((up2_o _ 134 _ _ 114 (by decide)).trans (up2_o _ 134 _ _ 114 (by decide))))) ((up2_o _ 134 _ _ 115 (by decide)).trans ((up2_o _ 134 _ _ 115 (by decide)).trans ((up2_o _ 134 _ _ 115 (by decide)).trans (up2_o _ 134 _ _ 115 (by decide)))))).1.2.2.1) ?_
    refine E_iastN dX12_feels_76 rfl (Nat.lt_of_lt_of_le (by decide) hN) (by decide) ?_
    refine E_aload_n dX12_feels_77 rfl ?_
    refine E_getR dX12_feels_78 f_X12_68 rfl (Nat.lt_of_lt_of_le (by decide) hN) rfl (hR _ _ _ rfl) ?_
    refine E_ic (nI 5) dX12_feels_81 (by decide) ?_
    refine E_iload dX12_feels_82 rfl ?_
    refine E_zN_eq (a := 1) (tgt := 108) dX12_feels_84 (by decide) (by decide) (fun cw84 => absurd cw84 (by omega)) (fun cw84 => ?_)
    refine E_aload_n dX12_feels_87 rfl ?_
    refine E_getR dX12_feels_88 f_X12_22 rfl (Nat.lt_of_lt_of_le (by decide) hN) rfl (hR _ _ _ rfl) ?_
    refine E_iload_n dX12_feels_91 rfl ?_
    refine E_aload_n dX12_feels_92 rfl ?_
    refine E_getR dX12_feels_93 f_X12_7 rfl (Nat.lt_of_lt_of_le (by decide) hN) rfl (hR _ _ _ rfl) ?_
    refine E_bp (nI 60) dX12_feels_96 (by decide) ?_
    refine E_iload_n dX12_feels_98 rfl ?_
    refine E_iadd dX12_feels_99 ?_
    refine E.top (nI_add 60 k) ?_
    refine E_ialdN dX12_feels_100 rfl (Nat.lt_of_lt_of_le (by decide) hN) (by omega) ?_
    refine E.top ((hD.row ((up2_o _ 134 _ _ 114 (by decide)).trans ((up2_o _ 134 _ _ 114 (by decide)).trans ((up2_o _ 134 _ _ 114 (by decide)).trans ((up2_o _ 134 _ _ 114 (by decide)).trans (up2_o _ 134 _ _ 114 (by decide)))))) ((up2_o _ 134 _ _ 115 (by decide)).trans ((up2_o _ 134 _ _ 115 (by decide)).trans ((up2_o _ 134 _ _ 115 (by decide)).trans ((up2_o _ 134 _ _ 115 (by decide)).trans (up2_o _ 134 _ _ 115 (by decide))))))).1.2.2.2.1) ?_
    refine E_callS (As := [_, _]) (kc' := 0) (ks' := 0) (kc := 0) (ks := 0) dX12_feels_101 ok_X12_at w_X12_280 st_X12_at rfl rfl rfl (Nat.le_of_ble_eq_true rfl) (Nat.le_of_ble_eq_true rfl) (Nat.le_refl _) (m_at ?_)
    refine E_ialdN dX12_feels_104 rfl (Nat.lt_of_lt_of_le (by decide) hN) (by omega) ?_
    refine E.top ((congrFun ((up2_o _ 134 _ _ 119 (by decide)).trans ((up2_o _ 134 _ _ 119 (by decide)).trans ((up2_o _ 134 _ _ 119 (by decide)).trans ((up2_o _ 134 _ _ 119 (by decide)).trans (up2_o _ 134 _ _ 119 (by decide)))))) _).trans ((hX.2.1 (D 3) (by omega)).1)) ?_
    refine E_goto (tgt := 109) dX12_feels_105 (by decide) ?_
    refine E_iastN dX12_feels_109 rfl (Nat.lt_of_lt_of_le (by decide) hN) (by decide) ?_
    refine E_aload_n dX12_feels_110 rfl ?_
    refine E_getR dX12_feels_111 f_X12_68 rfl (Nat.lt_of_lt_of_le (by decide) hN) rfl (hR _ _ _ rfl) ?_
    refine E_bp (nI 6) dX12_feels_114 (by decide) ?_
    refine E_iload dX12_feels_116 rfl ?_
    refine E_zN_eq (a := 1) (tgt := 142) dX12_feels_118 (by decide) (by decide) (fun cw118 => absurd cw118 (by omega)) (fun cw118 => ?_)
    refine E_aload_n dX12_feels_121 rfl ?_
    refine E_getR dX12_feels_122 f_X12_25 rfl (Nat.lt_of_lt_of_le (by decide) hN) rfl (hR _ _ _ rfl) ?_
    refine E_iload_n dX12_feels_125 rfl ?_
    refine E_aload_n dX12_feels_126 rfl ?_
    refine E_getR dX12_feels_127 f_X12_7 rfl (Nat.lt_of_lt_of_le (by decide) hN) rfl (hR _ _ _ rfl) ?_
    refine E_bp (nI 60) dX12_feels_130 (by decide) ?_
    refine E_iload_n dX12_feels_132 rfl ?_
    refine E_iadd dX12_feels_133 ?_
    refine E.top (nI_add 60 k) ?_
    refine E_ialdN dX12_feels_134 rfl (Nat.lt_of_lt_of_le (by decide) hN) (by omega) ?_
    refine E.top ((hD.row ((up2_o _ 134 _ _ 114 (by decide)).trans ((up2_o _ 134 _ _ 114 (by decide)).trans ((up2_o _ 134 _ _ 114 (by decide)).trans ((up2_o _ 134 _ _ 114 (by decide)).trans ((up2_o _ 134 _ _ 114 (by decide)).trans (up2_o _ 134 _ _ 114 (by decide))))))) ((up2_o _ 134 _ _ 115 (by decide)).trans ((up2_o _ 134 _ _ 115 (by decide)).trans ((up2_o _ 134 _ _ 115 (by decide)).trans ((up2_o _ 134 _ _ 115 (by decide)).trans ((up2_o _ 134 _ _ 115 (by decide)).trans (up2_o _ 134 _ _ 115 (by decide)))))))).1.2.2.2.1) ?_
    refine E_callS (As := [_, _]) (kc' := 0) (ks' := 0) (kc := 0) (ks := 0) dX12_feels_135 ok_X12_at w_X12_280 st_X12_at rfl rfl rfl (Nat.le_of_ble_eq_true rfl) (Nat.le_of_ble_eq_true rfl) (Nat.le_refl _) (m_at ?_)
    refine E_ialdN dX12_feels_138 rfl (Nat.lt_of_lt_of_le (by decide) hN) (by omega) ?_
    refine E.top ((congrFun ((up2_o _ 134 _ _ 120 (by decide)).trans ((up2_o _ 134 _ _ 120 (by decide)).trans ((up2_o _ 134 _ _ 120 (by decide)).trans ((up2_o _ 134 _ _ 120 (by decide)).trans ((up2_o _ 134 _ _ 120 (by decide)).trans (up2_o _ 134 _ _ 120 (by decide))))))) _).trans ((hX.2.1 (D 3) (by omega)).2)) ?_
    refine E_goto (tgt := 143) dX12_feels_139 (by decide) ?_
    refine E_iastN dX12_feels_143 rfl (Nat.lt_of_lt_of_le (by decide) hN) (by decide) ?_
    refine E_aload_n dX12_feels_144 rfl ?_
    refine E_getR dX12_feels_145 f_X12_68 rfl (Nat.lt_of_lt_of_le (by decide) hN) rfl (hR _ _ _ rfl) ?_
    refine E_bp (nI 7) dX12_feels_148 (by decide) ?_
    refine E_iload_n dX12_feels_150 rfl ?_
    refine E_iastN dX12_feels_151 rfl (Nat.lt_of_lt_of_le (by decide) hN) (by decide) ?_
    refine E_aload_n dX12_feels_152 rfl ?_
    refine E_getR dX12_feels_153 f_X12_68 rfl (Nat.lt_of_lt_of_le (by decide) hN) rfl (hR _ _ _ rfl) ?_
    refine E_bp (nI 8) dX12_feels_156 (by decide) ?_
    refine E_iload_n dX12_feels_158 rfl ?_
    refine E_iastN dX12_feels_159 rfl (Nat.lt_of_lt_of_le (by decide) hN) (by decide) ?_
    exact E_ret dX12_feels_160 rfl (hQ _ (fun x hx => by rw [up2_o _ 134 _ _ x hx, up2_o _ 134 _ _ x hx, up2_o _ 134 _ _ x hx, up2_o _ 134 _ _ x hx, up2_o _ 134 _ _ x hx, up2_o _ 134 _ _ x hx, up2_o _ 134 _ _ x hx, up2_o _ 134 _ _ x hx, up2_o _ 134 _ _ x hx]) (fun j hj => by
          have cj : j = 0 ∨ j = 1 ∨ j = 2 ∨ j = 3 ∨ j = 4 ∨ j = 5 ∨ j = 6 ∨ j = 7 ∨ j = 8 := by omega
          rcases cj with rfl | rfl | rfl | rfl | rfl | rfl | rfl | rfl | rfl
          · rfl
          · rfl
          · rfl
          · rfl
          · rfl
          · exact congrArg nI (if_pos hin).symm
          · exact congrArg nI (if_pos hin).symm
          · rfl
          · rfl))
  · skip
    refine E_aload_n dX12_feels_0 rfl ?_
    refine E_iload_n dX12_feels_1 rfl ?_
    refine E_callV (As := [_]) (ci := 11) (kc' := 0) (ks' := 0) (kc := 0) (ks := 0) dX12_feels_2 ok_X12_leftOf w_X12_286 i_X12_leftOf s_X12_leftOf rfl (by decide) rfl (Nat.lt_of_lt_of_le (by decide) hN) rfl rfl rfl (Nat.le_of_ble_eq_true rfl) (Nat.le_of_ble_eq_true rfl) (Nat.le_refl _) (m_lftD (d := d) (D := D) hN hR hk hX o3 hD ?_)
    refine E_zN_le (a := LN - D 3) (tgt := 12) dX12_feels_5 (by omega) (by decide) (fun cw5 => ?_) (fun cw5 => absurd cw5 (by omega))
    refine E_ic (nI 0) dX12_feels_12 (by decide) ?_
    refine E_istore dX12_feels_13 (Nat.le_of_ble_eq_true rfl) ?_
    refine E_aload_n dX12_feels_15 rfl ?_
    refine E_getR dX12_feels_16 f_X12_68 rfl (Nat.lt_of_lt_of_le (by decide) hN) rfl (hR _ _ _ rfl) ?_
    refine E_ic (nI 0) dX12_feels_19 (by decide) ?_
    refine E_iload_n dX12_feels_20 rfl ?_
    refine E_iastN dX12_feels_21 rfl (Nat.lt_of_lt_of_le (by decide) hN) (by decide) ?_
    refine E_aload_n dX12_feels_22 rfl ?_
    refine E_getR dX12_feels_23 f_X12_68 rfl (Nat.lt_of_lt_of_le (by decide) hN) rfl (hR _ _ _ rfl) ?_
    refine E_ic (nI 1) dX12_feels_26 (by decide) ?_
    refine E_aload_n dX12_feels_27 rfl ?_
    refine E_iload_n dX12_feels_28 rfl ?_
    refine E_callV (As := [_]) (ci := 11) (kc' := 0) (ks' := 0) (kc := 0) (ks := 0) dX12_feels_29 ok_X12_leftOf w_X12_286 i_X12_leftOf s_X12_leftOf rfl (by decide) rfl (Nat.lt_of_lt_of_le (by decide) hN) rfl rfl rfl (Nat.le_of_ble_eq_true rfl) (Nat.le_of_ble_eq_true rfl) (Nat.le_refl _) (m_lftD (d := d) (D := D) hN hR hk (hX.keep (wr := 1) (MFr.row (a := 134) (fun x hx => (up2_o _ 134 _ _ x hx)) (by decide))) o3 (hD.row (up2_o _ 134 _ _ 114 (by decide)) (up2_o _ 134 _ _ 115 (by decide))) ?_)
    refine E_iastN dX12_feels_32 rfl (Nat.lt_of_lt_of_le (by decide) hN) (by decide) ?_
    refine E_aload_n dX12_feels_33 rfl ?_
    refine E_getR dX12_feels_34 f_X12_68 rfl (Nat.lt_of_lt_of_le (by decide) hN) rfl (hR _ _ _ rfl) ?_
    refine E_ic (nI 2) dX12_feels_37 (by decide) ?_
    refine E_aload_n dX12_feels_38 rfl ?_
    refine E_getR dX12_feels_39 f_X12_7 rfl (Nat.lt_of_lt_of_le (by decide) hN) rfl (hR _ _ _ rfl) ?_
    refine E_ic (nI 0) dX12_feels_42 (by decide) ?_
    refine E_iload_n dX12_feels_43 rfl ?_
    refine E_iadd dX12_feels_44 ?_
    refine E.top (nI_add 0 k) ?_
    refine E.top (congrArg nI (Nat.zero_add k)) ?_
    refine E_ialdN dX12_feels_45 rfl (Nat.lt_of_lt_of_le (by decide) hN) (by omega) ?_
    refine E.top ((hD.row ((up2_o _ 134 _ _ 114 (by decide)).trans (up2_o _ 134 _ _ 114 (by decide))) ((up2_o _ 134 _ _ 115 (by decide)).trans (up2_o _ 134 _ _ 115 (by decide)))).1.1) ?_
    refine E_iastN dX12_feels_46 rfl (Nat.lt_of_lt_of_le (by decide) hN) (by decide) ?_
    refine E_aload_n dX12_feels_47 rfl ?_
    refine E_getR dX12_feels_48 f_X12_68 rfl (Nat.lt_of_lt_of_le (by decide) hN) rfl (hR _ _ _ rfl) ?_
    refine E_ic (nI 3) dX12_feels_51 (by decide) ?_
    refine E_aload_n dX12_feels_52 rfl ?_
    refine E_getR dX12_feels_53 f_X12_7 rfl (Nat.lt_of_lt_of_le (by decide) hN) rfl (hR _ _ _ rfl) ?_
    refine E_bp (nI 12) dX12_feels_56 (by decide) ?_
    refine E_iload_n dX12_feels_58 rfl ?_
    refine E_iadd dX12_feels_59 ?_
    refine E.top (nI_add 12 k) ?_
    refine E_ialdN dX12_feels_60 rfl (Nat.lt_of_lt_of_le (by decide) hN) (by omega) ?_
    refine E.top ((hD.row ((up2_o _ 134 _ _ 114 (by decide)).trans ((up2_o _ 134 _ _ 114 (by decide)).trans (up2_o _ 134 _ _ 114 (by decide)))) ((up2_o _ 134 _ _ 115 (by decide)).trans ((up2_o _ 134 _ _ 115 (by decide)).trans (up2_o _ 134 _ _ 115 (by decide))))).1.2.1) ?_
    refine E_iastN dX12_feels_61 rfl (Nat.lt_of_lt_of_le (by decide) hN) (by decide) ?_
    refine E_aload_n dX12_feels_62 rfl ?_
    refine E_getR dX12_feels_63 f_X12_68 rfl (Nat.lt_of_lt_of_le (by decide) hN) rfl (hR _ _ _ rfl) ?_
    refine E_ic (nI 4) dX12_feels_66 (by decide) ?_
    refine E_aload_n dX12_feels_67 rfl ?_
    refine E_getR dX12_feels_68 f_X12_7 rfl (Nat.lt_of_lt_of_le (by decide) hN) rfl (hR _ _ _ rfl) ?_
    refine E_bp (nI 24) dX12_feels_71 (by decide) ?_
    refine E_iload_n dX12_feels_73 rfl ?_
    refine E_iadd dX12_feels_74 ?_
    refine E.top (nI_add 24 k) ?_
    refine E_ialdN dX12_feels_75 rfl (Nat.lt_of_lt_of_le (by decide) hN) (by omega) ?_
    refine E.top ((hD.row ((up2_o _ 134 _ _ 114 (by decide)).trans ((up2_o _ 134 _ _ 114 (by decide)).trans ((up2_o _ 134 _ _ 114 (by decide)).trans (up2_o _ 134 _ _ 114 (by decide))))) ((up2_o _ 134 _ _ 115 (by decide)).trans ((up2_o _ 134 _ _ 115 (by decide)).trans ((up2_o _ 134 _ _ 115 (by decide)).trans (up2_o _ 134 _ _ 115 (by decide)))))).1.2.2.1) ?_
    refine E_iastN dX12_feels_76 rfl (Nat.lt_of_lt_of_le (by decide) hN) (by decide) ?_
    refine E_aload_n dX12_feels_77 rfl ?_
    refine E_getR dX12_feels_78 f_X12_68 rfl (Nat.lt_of_lt_of_le (by decide) hN) rfl (hR _ _ _ rfl) ?_
    refine E_ic (nI 5) dX12_feels_81 (by decide) ?_
    refine E_iload dX12_feels_82 rfl ?_
    refine E_zN_eq (a := 0) (tgt := 108) dX12_feels_84 (by decide) (by decide) (fun cw84 => ?_) (fun cw84 => absurd cw84 (by omega))
    refine E_ic (nI 0) dX12_feels_108 (by decide) ?_
    refine E_iastN dX12_feels_109 rfl (Nat.lt_of_lt_of_le (by decide) hN) (by decide) ?_
    refine E_aload_n dX12_feels_110 rfl ?_
    refine E_getR dX12_feels_111 f_X12_68 rfl (Nat.lt_of_lt_of_le (by decide) hN) rfl (hR _ _ _ rfl) ?_
    refine E_bp (nI 6) dX12_feels_114 (by decide) ?_
    refine E_iload dX12_feels_116 rfl ?_
    refine E_zN_eq (a := 0) (tgt := 142) dX12_feels_118 (by decide) (by decide) (fun cw118 => ?_) (fun cw118 => absurd cw118 (by omega))
    refine E_ic (nI 0) dX12_feels_142 (by decide) ?_
    refine E_iastN dX12_feels_143 rfl (Nat.lt_of_lt_of_le (by decide) hN) (by decide) ?_
    refine E_aload_n dX12_feels_144 rfl ?_
    refine E_getR dX12_feels_145 f_X12_68 rfl (Nat.lt_of_lt_of_le (by decide) hN) rfl (hR _ _ _ rfl) ?_
    refine E_bp (nI 7) dX12_feels_148 (by decide) ?_
    refine E_iload_n dX12_feels_150 rfl ?_
    refine E_iastN dX12_feels_151 rfl (Nat.lt_of_lt_of_le (by decide) hN) (by decide) ?_
    refine E_aload_n dX12_feels_152 rfl ?_
    refine E_getR dX12_feels_153 f_X12_68 rfl (Nat.lt_of_lt_of_le (by decide) hN) rfl (hR _ _ _ rfl) ?_
    refine E_bp (nI 8) dX12_feels_156 (by decide) ?_
    refine E_iload_n dX12_feels_158 rfl ?_
    refine E_iastN dX12_feels_159 rfl (Nat.lt_of_lt_of_le (by decide) hN) (by decide) ?_
    exact E_ret dX12_feels_160 rfl (hQ _ (fun x hx => by rw [up2_o _ 134 _ _ x hx, up2_o _ 134 _ _ x hx, up2_o _ 134 _ _ x hx, up2_o _ 134 _ _ x hx, up2_o _ 134 _ _ x hx, up2_o _ 134 _ _ x hx, up2_o _ 134 _ _ x hx, up2_o _ 134 _ _ x hx, up2_o _ 134 _ _ x hx]) (fun j hj => by
          have cj : j = 0 ∨ j = 1 ∨ j = 2 ∨ j = 3 ∨ j = 4 ∨ j = 5 ∨ j = 6 ∨ j = 7 ∨ j = 8 := by omega
          rcases cj with rfl | rfl | rfl | rfl | rfl | rfl | rfl | rfl | rfl
          · rfl
          · rfl
          · rfl
          · rfl
          · rfl
          · exact congrArg nI (if_neg hin).symm
          · exact congrArg nI (if_neg hin).symm
          · rfl
          · rfl))
set_option maxRecDepth 100000 in
set_option maxHeartbeats 2000000 in
theorem m_feels0 (hN : 152 ≤ n) (hR : RS R) (hk : k < 12) (hq : LWF q) (hLN : LN ≤ 24) (hX : MCr k LN Y S q I) (hO : okD LN D) (hD : MDr k 0 c0 Y D I) (hQ : ∀ I2 : IM, (∀ x, x ≠ 134 → I2 x = I x) → (∀ j, j < 9 → I2 134 j = fcI k LN Y S D i w j) → Q none n I2 J R) : E g mX12_feels (d + 1) 0 0 0 (ent 5 [.ref 114, .int (nI k), .int (nI i), .int (nI w)]) [] n I J R Q := by
  obtain ⟨o0, o1, o2, o3, o4, o5, o6, o7, o8, o9⟩ := hO
  by_cases hin : D 3 < LN
  · skip
    refine E_aload_n dX12_feels_0 rfl ?_
    refine E_iload_n dX12_feels_1 rfl ?_
    refine E_callV (As := [_]) (ci := 11) (kc' := 0) (ks' := 0) (kc := 0) (ks := 0) dX12_feels_2 ok_X12_leftOf w_X12_286 i_X12_leftOf s_X12_leftOf rfl (by decide) rfl (Nat.lt_of_lt_of_le (by decide) hN) rfl rfl rfl (Nat.le_of_ble_eq_true rfl) (Nat.le_of_ble_eq_true rfl) (Nat.le_refl _) (m_lftD (d := d) (D := D) hN hR hk hX o3 hD ?_)
    refine E_zN_le (a := LN - D 3) (tgt := 12) dX12_feels_5 (by omega) (by decide) (fun cw5 => absurd cw5 (by omega)) (fun cw5 => ?_)
    refine E_ic (nI 1) dX12_feels_8 (by decide) ?_
    refine E_goto (tgt := 13) dX12_feels_9 (by decide) ?_
    refine E_istore dX12_feels_13 (Nat.le_of_ble_eq_true rfl) ?_
    refine E_aload_n dX12_feels_15 rfl ?_
    refine E_getR dX12_feels_16 f_X12_68 rfl (Nat.lt_of_lt_of_le (by decide) hN) rfl (hR _ _ _ rfl) ?_
    refine E_ic (nI 0) dX12_feels_19 (by decide) ?_
    refine E_iload_n dX12_feels_20 rfl ?_
    refine E_iastN dX12_feels_21 rfl (Nat.lt_of_lt_of_le (by decide) hN) (by decide) ?_
    refine E_aload_n dX12_feels_22 rfl ?_
    refine E_getR dX12_feels_23 f_X12_68 rfl (Nat.lt_of_lt_of_le (by decide) hN) rfl (hR _ _ _ rfl) ?_
    refine E_ic (nI 1) dX12_feels_26 (by decide) ?_
    refine E_aload_n dX12_feels_27 rfl ?_
    refine E_iload_n dX12_feels_28 rfl ?_
    refine E_callV (As := [_]) (ci := 11) (kc' := 0) (ks' := 0) (kc := 0) (ks := 0) dX12_feels_29 ok_X12_leftOf w_X12_286 i_X12_leftOf s_X12_leftOf rfl (by decide) rfl (Nat.lt_of_lt_of_le (by decide) hN) rfl rfl rfl (Nat.le_of_ble_eq_true rfl) (Nat.le_of_ble_eq_true rfl) (Nat.le_refl _) (m_lftD (d := d) (D := D) hN hR hk (hX.keep (wr := 0) (MFr.row (a := 134) (fun x hx => (up2_o _ 134 _ _ x hx)) (by decide))) o3 (hD.row (up2_o _ 134 _ _ 114 (by decide)) (up2_o _ 134 _ _ 115 (by decide))) ?_)
    refine E_iastN dX12_feels_32 rfl (Nat.lt_of_lt_of_le (by decide) hN) (by decide) ?_
    refine E_aload_n dX12_feels_33 rfl ?_
    refine E_getR dX12_feels_34 f_X12_68 rfl (Nat.lt_of_lt_of_le (by decide) hN) rfl (hR _ _ _ rfl) ?_
    refine E_ic (nI 2) dX12_feels_37 (by decide) ?_
    refine E_aload_n dX12_feels_38 rfl ?_
    refine E_getR dX12_feels_39 f_X12_7 rfl (Nat.lt_of_lt_of_le (by decide) hN) rfl (hR _ _ _ rfl) ?_
    refine E_ic (nI 0) dX12_feels_42 (by decide) ?_
    refine E_iload_n dX12_feels_43 rfl ?_
    refine E_iadd dX12_feels_44 ?_
    refine E.top (nI_add 0 k) ?_
    refine E.top (congrArg nI (Nat.zero_add k)) ?_
    refine E_ialdN dX12_feels_45 rfl (Nat.lt_of_lt_of_le (by decide) hN) (by omega) ?_
    refine E.top ((hD.row ((up2_o _ 134 _ _ 114 (by decide)).trans (up2_o _ 134 _ _ 114 (by decide))) ((up2_o _ 134 _ _ 115 (by decide)).trans (up2_o _ 134 _ _ 115 (by decide)))).1.1) ?_
    refine E_iastN dX12_feels_46 rfl (Nat.lt_of_lt_of_le (by decide) hN) (by decide) ?_
    refine E_aload_n dX12_feels_47 rfl ?_
    refine E_getR dX12_feels_48 f_X12_68 rfl (Nat.lt_of_lt_of_le (by decide) hN) rfl (hR _ _ _ rfl) ?_
    refine E_ic (nI 3) dX12_feels_51 (by decide) ?_
    refine E_aload_n dX12_feels_52 rfl ?_
    refine E_getR dX12_feels_53 f_X12_7 rfl (Nat.lt_of_lt_of_le (by decide) hN) rfl (hR _ _ _ rfl) ?_
    refine E_bp (nI 12) dX12_feels_56 (by decide) ?_
    refine E_iload_n dX12_feels_58 rfl ?_
    refine E_iadd dX12_feels_59 ?_
    refine E.top (nI_add 12 k) ?_
    refine E_ialdN dX12_feels_60 rfl (Nat.lt_of_lt_of_le (by decide) hN) (by omega) ?_
    refine E.top ((hD.row ((up2_o _ 134 _ _ 114 (by decide)).trans ((up2_o _ 134 _ _ 114 (by decide)).trans (up2_o _ 134 _ _ 114 (by decide)))) ((up2_o _ 134 _ _ 115 (by decide)).trans ((up2_o _ 134 _ _ 115 (by decide)).trans (up2_o _ 134 _ _ 115 (by decide))))).1.2.1) ?_
    refine E_iastN dX12_feels_61 rfl (Nat.lt_of_lt_of_le (by decide) hN) (by decide) ?_
    refine E_aload_n dX12_feels_62 rfl ?_
    refine E_getR dX12_feels_63 f_X12_68 rfl (Nat.lt_of_lt_of_le (by decide) hN) rfl (hR _ _ _ rfl) ?_
    refine E_ic (nI 4) dX12_feels_66 (by decide) ?_
    refine E_aload_n dX12_feels_67 rfl ?_
    refine E_getR dX12_feels_68 f_X12_7 rfl (Nat.lt_of_lt_of_le (by decide) hN) rfl (hR _ _ _ rfl) ?_
    refine E_bp (nI 24) dX12_feels_71 (by decide) ?_
    refine E_iload_n dX12_feels_73 rfl ?_
    refine E_iadd dX12_feels_74 ?_
    refine E.top (nI_add 24 k) ?_
    refine E_ialdN dX12_feels_75 rfl (Nat.lt_of_lt_of_le (by decide) hN) (by omega) ?_
    refine E.top ((hD.row ((up2_o _ 134 _ _ 114 (by decide)).trans ((up2_o _ 134 _ _ 114 (by decide)).trans ((up2_o _ 134 _ _ 114 (by decide)).trans (up2_o _ 134 _ _ 114 (by decide))))) ((up2_o _ 134 _ _ 115 (by decide)).trans ((up2_o _ 134 _ _ 115 (by decide)).trans ((up2_o _ 134 _ _ 115 (by decide)).trans (up2_o _ 134 _ _ 115 (by decide)))))).1.2.2.1) ?_
    refine E_iastN dX12_feels_76 rfl (Nat.lt_of_lt_of_le (by decide) hN) (by decide) ?_
    refine E_aload_n dX12_feels_77 rfl ?_
    refine E_getR dX12_feels_78 f_X12_68 rfl (Nat.lt_of_lt_of_le (by decide) hN) rfl (hR _ _ _ rfl) ?_
    refine E_ic (nI 5) dX12_feels_81 (by decide) ?_
    refine E_iload dX12_feels_82 rfl ?_
    refine E_zN_eq (a := 1) (tgt := 108) dX12_feels_84 (by decide) (by decide) (fun cw84 => absurd cw84 (by omega)) (fun cw84 => ?_)
    refine E_aload_n dX12_feels_87 rfl ?_
    refine E_getR dX12_feels_88 f_X12_22 rfl (Nat.lt_of_lt_of_le (by decide) hN) rfl (hR _ _ _ rfl) ?_
    refine E_iload_n dX12_feels_91 rfl ?_
    refine E_aload_n dX12_feels_92 rfl ?_
    refine E_getR dX12_feels_93 f_X12_7 rfl (Nat.lt_of_lt_of_le (by decide) hN) rfl (hR _ _ _ rfl) ?_
    refine E_bp (nI 60) dX12_feels_96 (by decide) ?_
    refine E_iload_n dX12_feels_98 rfl ?_
    refine E_iadd dX12_feels_99 ?_
    refine E.top (nI_add 60 k) ?_
    refine E_ialdN dX12_feels_100 rfl (Nat.lt_of_lt_of_le (by decide) hN) (by omega) ?_
    refine E.top ((hD.row ((up2_o _ 134 _ _ 114 (by decide)).trans ((up2_o _ 134 _ _ 114 (by decide)).trans ((up2_o _ 134 _ _ 114 (by decide)).trans ((up2_o _ 134 _ _ 114 (by decide)).trans (up2_o _ 134 _ _ 114 (by decide)))))) ((up2_o _ 134 _ _ 115 (by decide)).trans ((up2_o _ 134 _ _ 115 (by decide)).trans ((up2_o _ 134 _ _ 115 (by decide)).trans ((up2_o _ 134 _ _ 115 (by decide)).trans (up2_o _ 134 _ _ 115 (by decide))))))).1.2.2.2.1) ?_
    refine E_callS (As := [_, _]) (kc' := 0) (ks' := 0) (kc := 0) (ks := 0) dX12_feels_101 ok_X12_at w_X12_280 st_X12_at rfl rfl rfl (Nat.le_of_ble_eq_true rfl) (Nat.le_of_ble_eq_true rfl) (Nat.le_refl _) (m_at ?_)
    refine E_ialdN dX12_feels_104 rfl (Nat.lt_of_lt_of_le (by decide) hN) (by omega) ?_
    refine E.top ((congrFun ((up2_o _ 134 _ _ 119 (by decide)).trans ((up2_o _ 134 _ _ 119 (by decide)).trans ((up2_o _ 134 _ _ 119 (by decide)).trans ((up2_o _ 134 _ _ 119 (by decide)).trans (up2_o _ 134 _ _ 119 (by decide)))))) _).trans ((hX.2.1 (D 3) (by omega)).1)) ?_
    refine E_goto (tgt := 109) dX12_feels_105 (by decide) ?_
    refine E_iastN dX12_feels_109 rfl (Nat.lt_of_lt_of_le (by decide) hN) (by decide) ?_
    refine E_aload_n dX12_feels_110 rfl ?_
    refine E_getR dX12_feels_111 f_X12_68 rfl (Nat.lt_of_lt_of_le (by decide) hN) rfl (hR _ _ _ rfl) ?_
    refine E_bp (nI 6) dX12_feels_114 (by decide) ?_
    refine E_iload dX12_feels_116 rfl ?_
    refine E_zN_eq (a := 1) (tgt := 142) dX12_feels_118 (by decide) (by decide) (fun cw118 => absurd cw118 (by omega)) (fun cw118 => ?_)
    refine E_aload_n dX12_feels_121 rfl ?_
    refine E_getR dX12_feels_122 f_X12_25 rfl (Nat.lt_of_lt_of_le (by decide) hN) rfl (hR _ _ _ rfl) ?_
    refine E_iload_n dX12_feels_125 rfl ?_
    refine E_aload_n dX12_feels_126 rfl ?_
    refine E_getR dX12_feels_127 f_X12_7 rfl (Nat.lt_of_lt_of_le (by decide) hN) rfl (hR _ _ _ rfl) ?_
    refine E_bp (nI 60) dX12_feels_130 (by decide) ?_
    refine E_iload_n dX12_feels_132 rfl ?_
    refine E_iadd dX12_feels_133 ?_
    refine E.top (nI_add 60 k) ?_
    refine E_ialdN dX12_feels_134 rfl (Nat.lt_of_lt_of_le (by decide) hN) (by omega) ?_
    refine E.top ((hD.row ((up2_o _ 134 _ _ 114 (by decide)).trans ((up2_o _ 134 _ _ 114 (by decide)).trans ((up2_o _ 134 _ _ 114 (by decide)).trans ((up2_o _ 134 _ _ 114 (by decide)).trans ((up2_o _ 134 _ _ 114 (by decide)).trans (up2_o _ 134 _ _ 114 (by decide))))))) ((up2_o _ 134 _ _ 115 (by decide)).trans ((up2_o _ 134 _ _ 115 (by decide)).trans ((up2_o _ 134 _ _ 115 (by decide)).trans ((up2_o _ 134 _ _ 115 (by decide)).trans ((up2_o _ 134 _ _ 115 (by decide)).trans (up2_o _ 134 _ _ 115 (by decide)))))))).1.2.2.2.1) ?_
    refine E_callS (As := [_, _]) (kc' := 0) (ks' := 0) (kc := 0) (ks := 0) dX12_feels_135 ok_X12_at w_X12_280 st_X12_at rfl rfl rfl (Nat.le_of_ble_eq_true rfl) (Nat.le_of_ble_eq_true rfl) (Nat.le_refl _) (m_at ?_)
    refine E_ialdN dX12_feels_138 rfl (Nat.lt_of_lt_of_le (by decide) hN) (by omega) ?_
    refine E.top ((congrFun ((up2_o _ 134 _ _ 120 (by decide)).trans ((up2_o _ 134 _ _ 120 (by decide)).trans ((up2_o _ 134 _ _ 120 (by decide)).trans ((up2_o _ 134 _ _ 120 (by decide)).trans ((up2_o _ 134 _ _ 120 (by decide)).trans (up2_o _ 134 _ _ 120 (by decide))))))) _).trans ((hX.2.1 (D 3) (by omega)).2)) ?_
    refine E_goto (tgt := 143) dX12_feels_139 (by decide) ?_
    refine E_iastN dX12_feels_143 rfl (Nat.lt_of_lt_of_le (by decide) hN) (by decide) ?_
    refine E_aload_n dX12_feels_144 rfl ?_
    refine E_getR dX12_feels_145 f_X12_68 rfl (Nat.lt_of_lt_of_le (by decide) hN) rfl (hR _ _ _ rfl) ?_
    refine E_bp (nI 7) dX12_feels_148 (by decide) ?_
    refine E_iload_n dX12_feels_150 rfl ?_
    refine E_iastN dX12_feels_151 rfl (Nat.lt_of_lt_of_le (by decide) hN) (by decide) ?_
    refine E_aload_n dX12_feels_152 rfl ?_
    refine E_getR dX12_feels_153 f_X12_68 rfl (Nat.lt_of_lt_of_le (by decide) hN) rfl (hR _ _ _ rfl) ?_
    refine E_bp (nI 8) dX12_feels_156 (by decide) ?_
    refine E_iload_n dX12_feels_158 rfl ?_
    refine E_iastN dX12_feels_159 rfl (Nat.lt_of_lt_of_le (by decide) hN) (by decide) ?_
    exact E_ret dX12_feels_160 rfl (hQ _ (fun x hx => by rw [up2_o _ 134 _ _ x hx, up2_o _ 134 _ _ x hx, up2_o _ 134 _ _ x hx, up2_o _ 134 _ _ x hx, up2_o _ 134 _ _ x hx, up2_o _ 134 _ _ x hx, up2_o _ 134 _ _ x hx, up2_o _ 134 _ _ x hx, up2_o _ 134 _ _ x hx]) (fun j hj => by
          have cj : j = 0 ∨ j = 1 ∨ j = 2 ∨ j = 3 ∨ j = 4 ∨ j = 5 ∨ j = 6 ∨ j = 7 ∨ j = 8 := by omega
          rcases cj with rfl | rfl | rfl | rfl | rfl | rfl | rfl | rfl | rfl
          · rfl
          · rfl
          · rfl
          · rfl
          · rfl
          · exact congrArg nI (if_pos hin).symm
          · exact congrArg nI (if_pos hin).symm
          · rfl
          · rfl))
  · skip
    refine E_aload_n dX12_feels_0 rfl ?_
    refine E_iload_n dX12_feels_1 rfl ?_
    refine E_callV (As := [_]) (ci := 11) (kc' := 0) (ks' := 0) (kc := 0) (ks := 0) dX12_feels_2 ok_X12_leftOf w_X12_286 i_X12_leftOf s_X12_leftOf rfl (by decide) rfl (Nat.lt_of_lt_of_le (by decide) hN) rfl rfl rfl (Nat.le_of_ble_eq_true rfl) (Nat.le_of_ble_eq_true rfl) (Nat.le_refl _) (m_lftD (d := d) (D := D) hN hR hk hX o3 hD ?_)
    refine E_zN_le (a := LN - D 3) (tgt := 12) dX12_feels_5 (by omega) (by decide) (fun cw5 => ?_) (fun cw5 => absurd cw5 (by omega))
    refine E_ic (nI 0) dX12_feels_12 (by decide) ?_
    refine E_istore dX12_feels_13 (Nat.le_of_ble_eq_true rfl) ?_
    refine E_aload_n dX12_feels_15 rfl ?_
    refine E_getR dX12_feels_16 f_X12_68 rfl (Nat.lt_of_lt_of_le (by decide) hN) rfl (hR _ _ _ rfl) ?_
    refine E_ic (nI 0) dX12_feels_19 (by decide) ?_
    refine E_iload_n dX12_feels_20 rfl ?_
    refine E_iastN dX12_feels_21 rfl (Nat.lt_of_lt_of_le (by decide) hN) (by decide) ?_
    refine E_aload_n dX12_feels_22 rfl ?_
    refine E_getR dX12_feels_23 f_X12_68 rfl (Nat.lt_of_lt_of_le (by decide) hN) rfl (hR _ _ _ rfl) ?_
    refine E_ic (nI 1) dX12_feels_26 (by decide) ?_
    refine E_aload_n dX12_feels_27 rfl ?_
    refine E_iload_n dX12_feels_28 rfl ?_
    refine E_callV (As := [_]) (ci := 11) (kc' := 0) (ks' := 0) (kc := 0) (ks := 0) dX12_feels_29 ok_X12_leftOf w_X12_286 i_X12_leftOf s_X12_leftOf rfl (by decide) rfl (Nat.lt_of_lt_of_le (by decide) hN) rfl rfl rfl (Nat.le_of_ble_eq_true rfl) (Nat.le_of_ble_eq_true rfl) (Nat.le_refl _) (m_lftD (d := d) (D := D) hN hR hk (hX.keep (wr := 0) (MFr.row (a := 134) (fun x hx => (up2_o _ 134 _ _ x hx)) (by decide))) o3 (hD.row (up2_o _ 134 _ _ 114 (by decide)) (up2_o _ 134 _ _ 115 (by decide))) ?_)
    refine E_iastN dX12_feels_32 rfl (Nat.lt_of_lt_of_le (by decide) hN) (by decide) ?_
    refine E_aload_n dX12_feels_33 rfl ?_
    refine E_getR dX12_feels_34 f_X12_68 rfl (Nat.lt_of_lt_of_le (by decide) hN) rfl (hR _ _ _ rfl) ?_
    refine E_ic (nI 2) dX12_feels_37 (by decide) ?_
    refine E_aload_n dX12_feels_38 rfl ?_
    refine E_getR dX12_feels_39 f_X12_7 rfl (Nat.lt_of_lt_of_le (by decide) hN) rfl (hR _ _ _ rfl) ?_
    refine E_ic (nI 0) dX12_feels_42 (by decide) ?_
    refine E_iload_n dX12_feels_43 rfl ?_
    refine E_iadd dX12_feels_44 ?_
    refine E.top (nI_add 0 k) ?_
    refine E.top (congrArg nI (Nat.zero_add k)) ?_
    refine E_ialdN dX12_feels_45 rfl (Nat.lt_of_lt_of_le (by decide) hN) (by omega) ?_
    refine E.top ((hD.row ((up2_o _ 134 _ _ 114 (by decide)).trans (up2_o _ 134 _ _ 114 (by decide))) ((up2_o _ 134 _ _ 115 (by decide)).trans (up2_o _ 134 _ _ 115 (by decide)))).1.1) ?_
    refine E_iastN dX12_feels_46 rfl (Nat.lt_of_lt_of_le (by decide) hN) (by decide) ?_
    refine E_aload_n dX12_feels_47 rfl ?_
    refine E_getR dX12_feels_48 f_X12_68 rfl (Nat.lt_of_lt_of_le (by decide) hN) rfl (hR _ _ _ rfl) ?_
    refine E_ic (nI 3) dX12_feels_51 (by decide) ?_
    refine E_aload_n dX12_feels_52 rfl ?_
    refine E_getR dX12_feels_53 f_X12_7 rfl (Nat.lt_of_lt_of_le (by decide) hN) rfl (hR _ _ _ rfl) ?_
    refine E_bp (nI 12) dX12_feels_56 (by decide) ?_
    refine E_iload_n dX12_feels_58 rfl ?_
    refine E_iadd dX12_feels_59 ?_
    refine E.top (nI_add 12 k) ?_
    refine E_ialdN dX12_feels_60 rfl (Nat.lt_of_lt_of_le (by decide) hN) (by omega) ?_
    refine E.top ((hD.row ((up2_o _ 134 _ _ 114 (by decide)).trans ((up2_o _ 134 _ _ 114 (by decide)).trans (up2_o _ 134 _ _ 114 (by decide)))) ((up2_o _ 134 _ _ 115 (by decide)).trans ((up2_o _ 134 _ _ 115 (by decide)).trans (up2_o _ 134 _ _ 115 (by decide))))).1.2.1) ?_
    refine E_iastN dX12_feels_61 rfl (Nat.lt_of_lt_of_le (by decide) hN) (by decide) ?_
    refine E_aload_n dX12_feels_62 rfl ?_
    refine E_getR dX12_feels_63 f_X12_68 rfl (Nat.lt_of_lt_of_le (by decide) hN) rfl (hR _ _ _ rfl) ?_
    refine E_ic (nI 4) dX12_feels_66 (by decide) ?_
    refine E_aload_n dX12_feels_67 rfl ?_
    refine E_getR dX12_feels_68 f_X12_7 rfl (Nat.lt_of_lt_of_le (by decide) hN) rfl (hR _ _ _ rfl) ?_
    refine E_bp (nI 24) dX12_feels_71 (by decide) ?_
    refine E_iload_n dX12_feels_73 rfl ?_
    refine E_iadd dX12_feels_74 ?_
    refine E.top (nI_add 24 k) ?_
    refine E_ialdN dX12_feels_75 rfl (Nat.lt_of_lt_of_le (by decide) hN) (by omega) ?_
    refine E.top ((hD.row ((up2_o _ 134 _ _ 114 (by decide)).trans ((up2_o _ 134 _ _ 114 (by decide)).trans ((up2_o _ 134 _ _ 114 (by decide)).trans (up2_o _ 134 _ _ 114 (by decide))))) ((up2_o _ 134 _ _ 115 (by decide)).trans ((up2_o _ 134 _ _ 115 (by decide)).trans ((up2_o _ 134 _ _ 115 (by decide)).trans (up2_o _ 134 _ _ 115 (by decide)))))).1.2.2.1) ?_
    refine E_iastN dX12_feels_76 rfl (Nat.lt_of_lt_of_le (by decide) hN) (by decide) ?_
    refine E_aload_n dX12_feels_77 rfl ?_
    refine E_getR dX12_feels_78 f_X12_68 rfl (Nat.lt_of_lt_of_le (by decide) hN) rfl (hR _ _ _ rfl) ?_
    refine E_ic (nI 5) dX12_feels_81 (by decide) ?_
    refine E_iload dX12_feels_82 rfl ?_
    refine E_zN_eq (a := 0) (tgt := 108) dX12_feels_84 (by decide) (by decide) (fun cw84 => ?_) (fun cw84 => absurd cw84 (by omega))
    refine E_ic (nI 0) dX12_feels_108 (by decide) ?_
    refine E_iastN dX12_feels_109 rfl (Nat.lt_of_lt_of_le (by decide) hN) (by decide) ?_
    refine E_aload_n dX12_feels_110 rfl ?_
    refine E_getR dX12_feels_111 f_X12_68 rfl (Nat.lt_of_lt_of_le (by decide) hN) rfl (hR _ _ _ rfl) ?_
    refine E_bp (nI 6) dX12_feels_114 (by decide) ?_
    refine E_iload dX12_feels_116 rfl ?_
    refine E_zN_eq (a := 0) (tgt := 142) dX12_feels_118 (by decide) (by decide) (fun cw118 => ?_) (fun cw118 => absurd cw118 (by omega))
    refine E_ic (nI 0) dX12_feels_142 (by decide) ?_
    refine E_iastN dX12_feels_143 rfl (Nat.lt_of_lt_of_le (by decide) hN) (by decide) ?_
    refine E_aload_n dX12_feels_144 rfl ?_
    refine E_getR dX12_feels_145 f_X12_68 rfl (Nat.lt_of_lt_of_le (by decide) hN) rfl (hR _ _ _ rfl) ?_
    refine E_bp (nI 7) dX12_feels_148 (by decide) ?_
    refine E_iload_n dX12_feels_150 rfl ?_
    refine E_iastN dX12_feels_151 rfl (Nat.lt_of_lt_of_le (by decide) hN) (by decide) ?_
    refine E_aload_n dX12_feels_152 rfl ?_
    refine E_getR dX12_feels_153 f_X12_68 rfl (Nat.lt_of_lt_of_le (by decide) hN) rfl (hR _ _ _ rfl) ?_
    refine E_bp (nI 8) dX12_feels_156 (by decide) ?_
    refine E_iload_n dX12_feels_158 rfl ?_
    refine E_iastN dX12_feels_159 rfl (Nat.lt_of_lt_of_le (by decide) hN) (by decide) ?_
    exact E_ret dX12_feels_160 rfl (hQ _ (fun x hx => by rw [up2_o _ 134 _ _ x hx, up2_o _ 134 _ _ x hx, up2_o _ 134 _ _ x hx, up2_o _ 134 _ _ x hx, up2_o _ 134 _ _ x hx, up2_o _ 134 _ _ x hx, up2_o _ 134 _ _ x hx, up2_o _ 134 _ _ x hx, up2_o _ 134 _ _ x hx]) (fun j hj => by
          have cj : j = 0 ∨ j = 1 ∨ j = 2 ∨ j = 3 ∨ j = 4 ∨ j = 5 ∨ j = 6 ∨ j = 7 ∨ j = 8 := by omega
          rcases cj with rfl | rfl | rfl | rfl | rfl | rfl | rfl | rfl | rfl
          · rfl
          · rfl
          · rfl
          · rfl
          · rfl
          · exact congrArg nI (if_neg hin).symm
          · exact congrArg nI (if_neg hin).symm
          · rfl
          · rfl))
theorem mn_n {a b : Nat} (ha : a < 2 ^ 31) (hb : b < 2 ^ 31) : (if nI a < nI b then nI a else nI b) = nI (min a b) := (nI_ite ha hb).trans (nI_mn a b)
theorem mx_n {a b : Nat} (ha : a < 2 ^ 30) (hb : b < 2 ^ 30) : (if nI 0 > nI a - nI b then nI 0 else nI a - nI b) = nI (a - b) := by
  by_cases h : b ≤ a
  · rw [pk_sub h, if_neg (show ¬ nI 0 > nI (a - b) from nI_pos (by omega))]
  · rw [if_pos (show nI 0 > nI a - nI b from pk_sneg hb (by omega)), show a - b = 0 by omega]
theorem m_maxI {x y : Int32} (hQ : Q (some (.int (if x > y then x else y))) n I J R) : E g mX12_max d 0 0 0 (ent 2 [.int x, .int y]) [] n I J R Q := by
  refine E_iload_n dX12_max_0 rfl ?_
  refine E_iload_n dX12_max_1 rfl ?_
  refine E_icmp_le (tgt := 9) dX12_max_2 (by decide) (fun cw2 => ?_) (fun cw2 => ?_)
  · refine E_iload_n dX12_max_9 rfl ?_
    exact E_iret dX12_max_10 rfl (by first | (rw [if_pos (Int32.not_le.mp cw2)] at hQ; exact hQ) | (rw [if_neg (Int32.not_lt.mpr cw2)] at hQ; exact hQ))
  · refine E_iload_n dX12_max_5 rfl ?_
    refine E_goto (tgt := 10) dX12_max_6 (by decide) ?_
    exact E_iret dX12_max_10 rfl (by first | (rw [if_pos (Int32.not_le.mp cw2)] at hQ; exact hQ) | (rw [if_neg (Int32.not_lt.mpr cw2)] at hQ; exact hQ))
set_option maxRecDepth 100000 in
set_option maxHeartbeats 2000000 in
theorem m_layerComes1 (hN : 152 ≤ n) (hR : RS R) (hk : k < 12) (hq : LWF q) (hLN : LN ≤ 24) (hX : MCr k LN Y S q I) (hO : okD LN D) (hD : MDr k 1 c0 Y D I) (hQ : ∀ I2 : IM, MFr k 1 I I2 → MDr k 1 c0 Y (cmD LN 1 D) I2 → Q none n I2 J R) : E g mX12_layerComes (d + 1) 0 0 0 (ent 2 [.ref 114, .int (nI k)]) [] n I J R Q := by
  obtain ⟨o0, o1, o2, o3, o4, o5, o6, o7, o8, o9⟩ := hO
  by_cases hin : D 3 < LN
  · skip
    refine E_aload_n dX12_layerComes_0 rfl ?_
    refine E_iload_n dX12_layerComes_1 rfl ?_
    refine E_callV (As := [_]) (ci := 11) (kc' := 0) (ks' := 0) (kc := 0) (ks := 0) dX12_layerComes_2 ok_X12_leftOf w_X12_286 i_X12_leftOf s_X12_leftOf rfl (by decide) rfl (Nat.lt_of_lt_of_le (by decide) hN) rfl rfl rfl (Nat.le_of_ble_eq_true rfl) (Nat.le_of_ble_eq_true rfl) (Nat.le_refl _) (m_lftD (d := d) (D := D) hN hR hk hX o3 hD ?_)
    refine E_zN_ne (a := LN - D 3) (tgt := 9) dX12_layerComes_5 (by omega) (by decide) (fun cw5 => ?_) (fun cw5 => absurd cw5 (by omega))
    refine E_aload_n dX12_layerComes_9 rfl ?_
    refine E_aload_n dX12_layerComes_10 rfl ?_
    refine E_getR dX12_layerComes_11 f_X12_22 rfl (Nat.lt_of_lt_of_le (by decide) hN) rfl (hR _ _ _ rfl) ?_
    refine E_iload_n dX12_layerComes_14 rfl ?_
    refine E_aload_n dX12_layerComes_15 rfl ?_
    refine E_getR dX12_layerComes_16 f_X12_7 rfl (Nat.lt_of_lt_of_le (by decide) hN) rfl (hR _ _ _ rfl) ?_
    refine E_bp (nI 60) dX12_layerComes_19 (by decide) ?_
    refine E_iload_n dX12_layerComes_21 rfl ?_
    refine E_iadd dX12_layerComes_22 ?_
    refine E.top (nI_add 60 k) ?_
    refine E_ialdN dX12_layerComes_23 rfl (Nat.lt_of_lt_of_le (by decide) hN) (by omega) ?_
    refine E.top (hD.1.2.2.2.1) ?_
    refine E_callS (As := [_, _]) (kc' := 0) (ks' := 0) (kc := 0) (ks := 0) dX12_layerComes_24 ok_X12_at w_X12_280 st_X12_at rfl rfl rfl (Nat.le_of_ble_eq_true rfl) (Nat.le_of_ble_eq_true rfl) (Nat.le_refl _) (m_at ?_)
    refine E_ialdN dX12_layerComes_27 rfl (Nat.lt_of_lt_of_le (by decide) hN) (by omega) ?_
    refine E.top ((hX.2.1 (D 3) (by omega)).1) ?_
    refine E_putI dX12_layerComes_28 f_X12_289 rfl (Nat.lt_of_lt_of_le (by decide) hN) rfl ?_
    refine E_aload_n dX12_layerComes_31 rfl ?_
    refine E_getR dX12_layerComes_32 f_X12_7 rfl (Nat.lt_of_lt_of_le (by decide) hN) rfl (hR _ _ _ rfl) ?_
    refine E_bp (nI 60) dX12_layerComes_35 (by decide) ?_
    refine E_iload_n dX12_layerComes_37 rfl ?_
    refine E_iadd dX12_layerComes_38 ?_
    refine E.top (nI_add 60 k) ?_
    refine E_aload_n dX12_layerComes_39 rfl ?_
    refine E_getR dX12_layerComes_40 f_X12_7 rfl (Nat.lt_of_lt_of_le (by decide) hN) rfl (hR _ _ _ rfl) ?_
    refine E_bp (nI 60) dX12_layerComes_43 (by decide) ?_
    refine E_iload_n dX12_layerComes_45 rfl ?_
    refine E_iadd dX12_layerComes_46 ?_
    refine E.top (nI_add 60 k) ?_
    refine E_ialdN dX12_layerComes_47 rfl (Nat.lt_of_lt_of_le (by decide) hN) (by omega) ?_
    refine E.top ((congrFun (up2_o _ 114 41 _ 115 (by decide)) _).trans hD.1.2.2.2.1) ?_
    refine E_ic (nI 1) dX12_layerComes_48 (by decide) ?_
    refine E_iadd dX12_layerComes_49 ?_
    refine E.top (nI_add (D 3) 1) ?_
    refine E_iastN dX12_layerComes_50 rfl (Nat.lt_of_lt_of_le (by decide) hN) (by omega) ?_
    refine E_aload_n dX12_layerComes_51 rfl ?_
    refine E_getR dX12_layerComes_52 f_X12_7 rfl (Nat.lt_of_lt_of_le (by decide) hN) rfl (hR _ _ _ rfl) ?_
    refine E_bp (nI 73) dX12_layerComes_55 (by decide) ?_
    refine E_sp (nI 9999) dX12_layerComes_57 (by decide) ?_
    refine E_aload_n dX12_layerComes_60 rfl ?_
    refine E_getR dX12_layerComes_61 f_X12_7 rfl (Nat.lt_of_lt_of_le (by decide) hN) rfl (hR _ _ _ rfl) ?_
    refine E_bp (nI 73) dX12_layerComes_64 (by decide) ?_
    refine E_ialdN dX12_layerComes_66 rfl (Nat.lt_of_lt_of_le (by decide) hN) (by decide) ?_
    refine E.top ((up2_k _ _ (by omega)).trans ((congrFun (up2_o _ 114 41 _ 115 (by decide)) 73).trans (hD.2 rfl).2.2.1)) ?_
    refine E_ic (nI 1) dX12_layerComes_67 (by decide) ?_
    refine E_iadd dX12_layerComes_68 ?_
    refine E.top (nI_add (min 9999 (c0 + D 7)) 1) ?_
    refine E_callS (As := [_, _]) (kc' := 0) (ks' := 0) (kc := 0) (ks := 0) dX12_layerComes_69 ok_X12_min w_X12_292 st_X12_min rfl rfl rfl (Nat.le_of_ble_eq_true rfl) (Nat.le_of_ble_eq_true rfl) (Nat.le_refl _) (m_min ?_)
    refine E.top (mn_n (by decide) (by omega)) ?_
    refine E_iastN dX12_layerComes_72 rfl (Nat.lt_of_lt_of_le (by decide) hN) (by decide) ?_
    refine E_aload_n dX12_layerComes_73 rfl ?_
    refine E_aload_n dX12_layerComes_74 rfl ?_
    refine E_getI dX12_layerComes_75 f_X12_295 rfl (Nat.lt_of_lt_of_le (by decide) hN) rfl ?_
    refine E.top ((congrFun ((up2_o _ 115 _ _ 114 (by decide)).trans (up2_o _ 115 _ _ 114 (by decide))) 40).trans ((up2_k _ _ (by decide)).trans (hD.2 rfl).2.1)) ?_
    refine E_ic (nI 1) dX12_layerComes_78 (by decide) ?_
    refine E_iadd dX12_layerComes_79 ?_
    refine E.top (nI_add (D 7) 1) ?_
    refine E_putI dX12_layerComes_80 f_X12_295 rfl (Nat.lt_of_lt_of_le (by decide) hN) rfl ?_
    exact E_ret dX12_layerComes_83 rfl (by rw [show cmD LN 1 D = up1 (up1 D 3 (D 3 + 1)) 7 (D 7 + 1) by unfold cmD; rw [Nat.min_eq_left (show 1 ≤ LN - D 3 by omega)]] at hQ; exact hQ _ ((MFr.fld I _ (by decide)).trans ((MFr.at _ _ (by omega) (by omega)).trans ((MFr.told _ _).trans (MFr.fld _ _ (by decide))))) ⟨⟨(congrFun (up2_o _ 114 _ _ 115 (by decide)) _).trans ((up2_k _ _ (by omega)).trans ((up2_k _ _ (by omega)).trans ((congrFun (up2_o _ 114 _ _ 115 (by decide)) _).trans hD.1.1))), (congrFun (up2_o _ 114 _ _ 115 (by decide)) _).trans ((up2_k _ _ (by omega)).trans ((up2_k _ _ (by omega)).trans ((congrFun (up2_o _ 114 _ _ 115 (by decide)) _).trans hD.1.2.1))), (congrFun (up2_o _ 114 _ _ 115 (by decide)) _).trans ((up2_k _ _ (by omega)).trans ((up2_k _ _ (by omega)).trans ((congrFun (up2_o _ 114 _ _ 115 (by decide)) _).trans hD.1.2.2.1))), (congrFun (up2_o _ 114 _ _ 115 (by decide)) _).trans ((up2_k _ _ (by omega)).trans (up2_s _ _ _ _)), (congrFun (up2_o _ 114 _ _ 115 (by decide)) _).trans ((up2_k _ _ (by omega)).trans ((up2_k _ _ (by omega)).trans ((congrFun (up2_o _ 114 _ _ 115 (by decide)) _).trans hD.1.2.2.2.2.1))), (congrFun (up2_o _ 114 _ _ 115 (by decide)) _).trans ((up2_k _ _ (by omega)).trans ((up2_k _ _ (by omega)).trans ((congrFun (up2_o _ 114 _ _ 115 (by decide)) _).trans hD.1.2.2.2.2.2)))⟩, fun z => ⟨(congrFun (up2_o _ 114 _ _ 115 (by decide)) _).trans ((up2_k _ _ (by decide)).trans ((up2_k _ _ (by omega)).trans ((congrFun (up2_o _ 114 _ _ 115 (by decide)) _).trans (hD.2 z).1))), up2_s _ _ _ _, (congrFun (up2_o _ 114 _ _ 115 (by decide)) _).trans ((up2_s _ _ _ _).trans (congrArg nI (show min 9999 (min 9999 (c0 + D 7) + 1) = min 9999 (c0 + (D 7 + 1)) by omega))), (up2_k _ _ (by decide)).trans ((congrFun ((up2_o _ 115 _ _ 114 (by decide)).trans (up2_o _ 115 _ _ 114 (by decide))) 41).trans ((up2_s _ _ _ _).trans (show nI (Y (D 3)) = if D 7 + 1 = 0 then -2 else nI (Y (D 3 + 1 - 1)) from (if_neg (Nat.succ_ne_zero _)).symm)))⟩⟩)
  · skip
    refine E_aload_n dX12_layerComes_0 rfl ?_
    refine E_iload_n dX12_layerComes_1 rfl ?_
    refine E_callV (As := [_]) (ci := 11) (kc' := 0) (ks' := 0) (kc := 0) (ks := 0) dX12_layerComes_2 ok_X12_leftOf w_X12_286 i_X12_leftOf s_X12_leftOf rfl (by decide) rfl (Nat.lt_of_lt_of_le (by decide) hN) rfl rfl rfl (Nat.le_of_ble_eq_true rfl) (Nat.le_of_ble_eq_true rfl) (Nat.le_refl _) (m_lftD (d := d) (D := D) hN hR hk hX o3 hD ?_)
    refine E_zN_ne (a := LN - D 3) (tgt := 9) dX12_layerComes_5 (by omega) (by decide) (fun cw5 => absurd cw5 (by omega)) (fun cw5 => ?_)
    exact E_ret dX12_layerComes_8 rfl (by rw [cm_0 (show min 1 (LN - D 3) = 0 by omega)] at hQ; exact hQ I (MFr.refl _ _ I) hD)
set_option maxRecDepth 100000 in
set_option maxHeartbeats 2000000 in
theorem m_layerComes0 (hN : 152 ≤ n) (hR : RS R) (hk : k < 12) (hq : LWF q) (hLN : LN ≤ 24) (hX : MCr k LN Y S q I) (hO : okD LN D) (hD : MDr k 0 c0 Y D I) (hQ : ∀ I2 : IM, MFr k 0 I I2 → MDr k 0 c0 Y (cmD LN 1 D) I2 → Q none n I2 J R) : E g mX12_layerComes (d + 1) 0 0 0 (ent 2 [.ref 114, .int (nI k)]) [] n I J R Q := by
  obtain ⟨o0, o1, o2, o3, o4, o5, o6, o7, o8, o9⟩ := hO
  by_cases hin : D 3 < LN
  · skip
    refine E_aload_n dX12_layerComes_0 rfl ?_
    refine E_iload_n dX12_layerComes_1 rfl ?_
    refine E_callV (As := [_]) (ci := 11) (kc' := 0) (ks' := 0) (kc := 0) (ks := 0) dX12_layerComes_2 ok_X12_leftOf w_X12_286 i_X12_leftOf s_X12_leftOf rfl (by decide) rfl (Nat.lt_of_lt_of_le (by decide) hN) rfl rfl rfl (Nat.le_of_ble_eq_true rfl) (Nat.le_of_ble_eq_true rfl) (Nat.le_refl _) (m_lftD (d := d) (D := D) hN hR hk hX o3 hD ?_)
    refine E_zN_ne (a := LN - D 3) (tgt := 9) dX12_layerComes_5 (by omega) (by decide) (fun cw5 => ?_) (fun cw5 => absurd cw5 (by omega))
    refine E_aload_n dX12_layerComes_9 rfl ?_
    refine E_aload_n dX12_layerComes_10 rfl ?_
    refine E_getR dX12_layerComes_11 f_X12_22 rfl (Nat.lt_of_lt_of_le (by decide) hN) rfl (hR _ _ _ rfl) ?_
    refine E_iload_n dX12_layerComes_14 rfl ?_
    refine E_aload_n dX12_layerComes_15 rfl ?_
    refine E_getR dX12_layerComes_16 f_X12_7 rfl (Nat.lt_of_lt_of_le (by decide) hN) rfl (hR _ _ _ rfl) ?_
    refine E_bp (nI 60) dX12_layerComes_19 (by decide) ?_
    refine E_iload_n dX12_layerComes_21 rfl ?_
    refine E_iadd dX12_layerComes_22 ?_
    refine E.top (nI_add 60 k) ?_
    refine E_ialdN dX12_layerComes_23 rfl (Nat.lt_of_lt_of_le (by decide) hN) (by omega) ?_
    refine E.top (hD.1.2.2.2.1) ?_
    refine E_callS (As := [_, _]) (kc' := 0) (ks' := 0) (kc := 0) (ks := 0) dX12_layerComes_24 ok_X12_at w_X12_280 st_X12_at rfl rfl rfl (Nat.le_of_ble_eq_true rfl) (Nat.le_of_ble_eq_true rfl) (Nat.le_refl _) (m_at ?_)
    refine E_ialdN dX12_layerComes_27 rfl (Nat.lt_of_lt_of_le (by decide) hN) (by omega) ?_
    refine E.top ((hX.2.1 (D 3) (by omega)).1) ?_
    refine E_putI dX12_layerComes_28 f_X12_289 rfl (Nat.lt_of_lt_of_le (by decide) hN) rfl ?_
    refine E_aload_n dX12_layerComes_31 rfl ?_
    refine E_getR dX12_layerComes_32 f_X12_7 rfl (Nat.lt_of_lt_of_le (by decide) hN) rfl (hR _ _ _ rfl) ?_
    refine E_bp (nI 60) dX12_layerComes_35 (by decide) ?_
    refine E_iload_n dX12_layerComes_37 rfl ?_
    refine E_iadd dX12_layerComes_38 ?_
    refine E.top (nI_add 60 k) ?_
    refine E_aload_n dX12_layerComes_39 rfl ?_
    refine E_getR dX12_layerComes_40 f_X12_7 rfl (Nat.lt_of_lt_of_le (by decide) hN) rfl (hR _ _ _ rfl) ?_
    refine E_bp (nI 60) dX12_layerComes_43 (by decide) ?_
    refine E_iload_n dX12_layerComes_45 rfl ?_
    refine E_iadd dX12_layerComes_46 ?_
    refine E.top (nI_add 60 k) ?_
    refine E_ialdN dX12_layerComes_47 rfl (Nat.lt_of_lt_of_le (by decide) hN) (by omega) ?_
    refine E.top ((congrFun (up2_o _ 114 41 _ 115 (by decide)) _).trans hD.1.2.2.2.1) ?_
    refine E_ic (nI 1) dX12_layerComes_48 (by decide) ?_
    refine E_iadd dX12_layerComes_49 ?_
    refine E.top (nI_add (D 3) 1) ?_
    refine E_iastN dX12_layerComes_50 rfl (Nat.lt_of_lt_of_le (by decide) hN) (by omega) ?_
    refine E_aload_n dX12_layerComes_51 rfl ?_
    refine E_getR dX12_layerComes_52 f_X12_7 rfl (Nat.lt_of_lt_of_le (by decide) hN) rfl (hR _ _ _ rfl) ?_
    refine E_bp (nI 73) dX12_layerComes_55 (by decide) ?_
    refine E_sp (nI 9999) dX12_layerComes_57 (by decide) ?_
    refine E_aload_n dX12_layerComes_60 rfl ?_
    refine E_getR dX12_layerComes_61 f_X12_7 rfl (Nat.lt_of_lt_of_le (by decide) hN) rfl (hR _ _ _ rfl) ?_
    refine E_bp (nI 73) dX12_layerComes_64 (by decide) ?_
    refine E_ialdN dX12_layerComes_66 rfl (Nat.lt_of_lt_of_le (by decide) hN) (by decide) ?_
    refine E.top (rfl) ?_
    refine E_ic (nI 1) dX12_layerComes_67 (by decide) ?_
    refine E_iadd dX12_layerComes_68 ?_
    refine E_callS (As := [_, _]) (kc' := 0) (ks' := 0) (kc := 0) (ks := 0) dX12_layerComes_69 ok_X12_min w_X12_292 st_X12_min rfl rfl rfl (Nat.le_of_ble_eq_true rfl) (Nat.le_of_ble_eq_true rfl) (Nat.le_refl _) (m_min ?_)
    refine E_iastN dX12_layerComes_72 rfl (Nat.lt_of_lt_of_le (by decide) hN) (by decide) ?_
    refine E_aload_n dX12_layerComes_73 rfl ?_
    refine E_aload_n dX12_layerComes_74 rfl ?_
    refine E_getI dX12_layerComes_75 f_X12_295 rfl (Nat.lt_of_lt_of_le (by decide) hN) rfl ?_
    refine E_ic (nI 1) dX12_layerComes_78 (by decide) ?_
    refine E_iadd dX12_layerComes_79 ?_
    refine E_putI dX12_layerComes_80 f_X12_295 rfl (Nat.lt_of_lt_of_le (by decide) hN) rfl ?_
    exact E_ret dX12_layerComes_83 rfl (by rw [show cmD LN 1 D = up1 (up1 D 3 (D 3 + 1)) 7 (D 7 + 1) by unfold cmD; rw [Nat.min_eq_left (show 1 ≤ LN - D 3 by omega)]] at hQ; exact hQ _ ((MFr.fld I _ (by decide)).trans ((MFr.at _ _ (by omega) (by omega)).trans ((MFr.told _ _).trans (MFr.fld _ _ (by decide))))) ⟨⟨(congrFun (up2_o _ 114 _ _ 115 (by decide)) _).trans ((up2_k _ _ (by omega)).trans ((up2_k _ _ (by omega)).trans ((congrFun (up2_o _ 114 _ _ 115 (by decide)) _).trans hD.1.1))), (congrFun (up2_o _ 114 _ _ 115 (by decide)) _).trans ((up2_k _ _ (by omega)).trans ((up2_k _ _ (by omega)).trans ((congrFun (up2_o _ 114 _ _ 115 (by decide)) _).trans hD.1.2.1))), (congrFun (up2_o _ 114 _ _ 115 (by decide)) _).trans ((up2_k _ _ (by omega)).trans ((up2_k _ _ (by omega)).trans ((congrFun (up2_o _ 114 _ _ 115 (by decide)) _).trans hD.1.2.2.1))), (congrFun (up2_o _ 114 _ _ 115 (by decide)) _).trans ((up2_k _ _ (by omega)).trans (up2_s _ _ _ _)), (congrFun (up2_o _ 114 _ _ 115 (by decide)) _).trans ((up2_k _ _ (by omega)).trans ((up2_k _ _ (by omega)).trans ((congrFun (up2_o _ 114 _ _ 115 (by decide)) _).trans hD.1.2.2.2.2.1))), (congrFun (up2_o _ 114 _ _ 115 (by decide)) _).trans ((up2_k _ _ (by omega)).trans ((up2_k _ _ (by omega)).trans ((congrFun (up2_o _ 114 _ _ 115 (by decide)) _).trans hD.1.2.2.2.2.2)))⟩, fun z => absurd z (by decide)⟩)
  · skip
    refine E_aload_n dX12_layerComes_0 rfl ?_
    refine E_iload_n dX12_layerComes_1 rfl ?_
    refine E_callV (As := [_]) (ci := 11) (kc' := 0) (ks' := 0) (kc := 0) (ks := 0) dX12_layerComes_2 ok_X12_leftOf w_X12_286 i_X12_leftOf s_X12_leftOf rfl (by decide) rfl (Nat.lt_of_lt_of_le (by decide) hN) rfl rfl rfl (Nat.le_of_ble_eq_true rfl) (Nat.le_of_ble_eq_true rfl) (Nat.le_refl _) (m_lftD (d := d) (D := D) hN hR hk hX o3 hD ?_)
    refine E_zN_ne (a := LN - D 3) (tgt := 9) dX12_layerComes_5 (by omega) (by decide) (fun cw5 => absurd cw5 (by omega)) (fun cw5 => ?_)
    exact E_ret dX12_layerComes_8 rfl (by rw [cm_0 (show min 1 (LN - D 3) = 0 by omega)] at hQ; exact hQ I (MFr.refl _ _ I) hD)
set_option maxRecDepth 100000 in
set_option maxHeartbeats 2000000 in
theorem m_corkLess1 (hN : 152 ≤ n) (hR : RS R) (hk : k < 12) (hq : LWF q) (hLN : LN ≤ 24) (hX : MCr k LN Y S q I) (hO : okD LN D) (hD : MDr k 1 c0 Y D I) {b : Nat} (hb : b ≤ 2) (hQ : ∀ I2 : IM, MFr k 1 I I2 → MDr k 1 c0 Y (lsD b D) I2 → Q none n I2 J R) : E g mX12_corkLess (d + 1) 0 0 0 (ent 3 [.ref 114, .int (nI k), .int (nI b)]) [] n I J R Q := by
  obtain ⟨o0, o1, o2, o3, o4, o5, o6, o7, o8, o9⟩ := hO
  by_cases hz : D 1 - b = 0
  · rw [show lsD b D = up1 (up1 D 1 (D 1 - b)) 5 1 from (if_pos hz).trans (by rw [hz])] at hQ
    refine E_aload_n dX12_corkLess_0 rfl ?_
    refine E_getR dX12_corkLess_1 f_X12_7 rfl (Nat.lt_of_lt_of_le (by decide) hN) rfl (hR _ _ _ rfl) ?_
    refine E_bp (nI 12) dX12_corkLess_4 (by decide) ?_
    refine E_iload_n dX12_corkLess_6 rfl ?_
    refine E_iadd dX12_corkLess_7 ?_
    refine E.top (nI_add 12 k) ?_
    refine E_ic (nI 0) dX12_corkLess_8 (by decide) ?_
    refine E_aload_n dX12_corkLess_9 rfl ?_
    refine E_getR dX12_corkLess_10 f_X12_7 rfl (Nat.lt_of_lt_of_le (by decide) hN) rfl (hR _ _ _ rfl) ?_
    refine E_bp (nI 12) dX12_corkLess_13 (by decide) ?_
    refine E_iload_n dX12_corkLess_15 rfl ?_
    refine E_iadd dX12_corkLess_16 ?_
    refine E.top (nI_add 12 k) ?_
    refine E_ialdN dX12_corkLess_17 rfl (Nat.lt_of_lt_of_le (by decide) hN) (by omega) ?_
    refine E.top (hD.1.2.1) ?_
    refine E_iload_n dX12_corkLess_18 rfl ?_
    refine E_isub dX12_corkLess_19 ?_
    refine E_callS (As := [_, _]) (kc' := 0) (ks' := 0) (kc := 0) (ks := 0) dX12_corkLess_20 ok_X12_max w_X12_298 st_X12_max rfl rfl rfl (Nat.le_of_ble_eq_true rfl) (Nat.le_of_ble_eq_true rfl) (Nat.le_refl _) (m_maxI ?_)
    refine E.top (mx_n (a := D 1) (b := b) (by omega) (by omega)) ?_
    refine E_iastN dX12_corkLess_23 rfl (Nat.lt_of_lt_of_le (by decide) hN) (by omega) ?_
    refine E_aload_n dX12_corkLess_24 rfl ?_
    refine E_getR dX12_corkLess_25 f_X12_7 rfl (Nat.lt_of_lt_of_le (by decide) hN) rfl (hR _ _ _ rfl) ?_
    refine E_bp (nI 12) dX12_corkLess_28 (by decide) ?_
    refine E_iload_n dX12_corkLess_30 rfl ?_
    refine E_iadd dX12_corkLess_31 ?_
    refine E.top (nI_add 12 k) ?_
    refine E_ialdN dX12_corkLess_32 rfl (Nat.lt_of_lt_of_le (by decide) hN) (by omega) ?_
    refine E.top (up2_s _ _ _ _) ?_
    refine E_zN_ne (a := D 1 - b) (tgt := 46) dX12_corkLess_33 (by omega) (by decide) (fun cw33 => absurd cw33 (by omega)) (fun cw33 => ?_)
    refine E_aload_n dX12_corkLess_36 rfl ?_
    refine E_getR dX12_corkLess_37 f_X12_7 rfl (Nat.lt_of_lt_of_le (by decide) hN) rfl (hR _ _ _ rfl) ?_
    refine E_bp (nI 48) dX12_corkLess_40 (by decide) ?_
    refine E_iload_n dX12_corkLess_42 rfl ?_
    refine E_iadd dX12_corkLess_43 ?_
    refine E.top (nI_add 48 k) ?_
    refine E_ic (nI 1) dX12_corkLess_44 (by decide) ?_
    refine E_iastN dX12_corkLess_45 rfl (Nat.lt_of_lt_of_le (by decide) hN) (by omega) ?_
    exact E_ret dX12_corkLess_46 rfl (hQ _ ((hD.st hk (j := 1) (v := D 1 - b) (Or.inr (Or.inl ⟨rfl, rfl⟩))).2.trans ((hD.st hk (j := 1) (v := D 1 - b) (Or.inr (Or.inl ⟨rfl, rfl⟩))).1.st hk (j := 5) (v := 1) (by omega)).2) ((hD.st hk (j := 1) (v := D 1 - b) (Or.inr (Or.inl ⟨rfl, rfl⟩))).1.st hk (j := 5) (v := 1) (by omega)).1)
  · rw [show lsD b D = up1 D 1 (D 1 - b) from if_neg hz] at hQ
    refine E_aload_n dX12_corkLess_0 rfl ?_
    refine E_getR dX12_corkLess_1 f_X12_7 rfl (Nat.lt_of_lt_of_le (by decide) hN) rfl (hR _ _ _ rfl) ?_
    refine E_bp (nI 12) dX12_corkLess_4 (by decide) ?_
    refine E_iload_n dX12_corkLess_6 rfl ?_
    refine E_iadd dX12_corkLess_7 ?_
    refine E.top (nI_add 12 k) ?_
    refine E_ic (nI 0) dX12_corkLess_8 (by decide) ?_
    refine E_aload_n dX12_corkLess_9 rfl ?_
    refine E_getR dX12_corkLess_10 f_X12_7 rfl (Nat.lt_of_lt_of_le (by decide) hN) rfl (hR _ _ _ rfl) ?_
    refine E_bp (nI 12) dX12_corkLess_13 (by decide) ?_
    refine E_iload_n dX12_corkLess_15 rfl ?_
    refine E_iadd dX12_corkLess_16 ?_
    refine E.top (nI_add 12 k) ?_
    refine E_ialdN dX12_corkLess_17 rfl (Nat.lt_of_lt_of_le (by decide) hN) (by omega) ?_
    refine E.top (hD.1.2.1) ?_
    refine E_iload_n dX12_corkLess_18 rfl ?_
    refine E_isub dX12_corkLess_19 ?_
    refine E_callS (As := [_, _]) (kc' := 0) (ks' := 0) (kc := 0) (ks := 0) dX12_corkLess_20 ok_X12_max w_X12_298 st_X12_max rfl rfl rfl (Nat.le_of_ble_eq_true rfl) (Nat.le_of_ble_eq_true rfl) (Nat.le_refl _) (m_maxI ?_)
    refine E.top (mx_n (a := D 1) (b := b) (by omega) (by omega)) ?_
    refine E_iastN dX12_corkLess_23 rfl (Nat.lt_of_lt_of_le (by decide) hN) (by omega) ?_
    refine E_aload_n dX12_corkLess_24 rfl ?_
    refine E_getR dX12_corkLess_25 f_X12_7 rfl (Nat.lt_of_lt_of_le (by decide) hN) rfl (hR _ _ _ rfl) ?_
    refine E_bp (nI 12) dX12_corkLess_28 (by decide) ?_
    refine E_iload_n dX12_corkLess_30 rfl ?_
    refine E_iadd dX12_corkLess_31 ?_
    refine E.top (nI_add 12 k) ?_
    refine E_ialdN dX12_corkLess_32 rfl (Nat.lt_of_lt_of_le (by decide) hN) (by omega) ?_
    refine E.top (up2_s _ _ _ _) ?_
    refine E_zN_ne (a := D 1 - b) (tgt := 46) dX12_corkLess_33 (by omega) (by decide) (fun cw33 => ?_) (fun cw33 => absurd cw33 (by omega))
    exact E_ret dX12_corkLess_46 rfl (hQ _ (hD.st hk (j := 1) (v := D 1 - b) (Or.inr (Or.inl ⟨rfl, rfl⟩))).2 (hD.st hk (j := 1) (v := D 1 - b) (Or.inr (Or.inl ⟨rfl, rfl⟩))).1)
set_option maxRecDepth 100000 in
set_option maxHeartbeats 2000000 in
theorem m_turns01 (hN : 152 ≤ n) (hR : RS R) (hk : k < 12) (hq : LWF q) (hLN : LN ≤ 24) (hX : MCr k LN Y S q I) (hO : okD LN D) (hD : MDr k 1 c0 Y D I) (h4 : D 4 = 0) (hQ : ∀ I2 : IM, MFr k 1 I I2 → MDr k 1 c0 Y (if 5 < min 9 (D 2 + 1) then lsD 1 (up1 D 2 (min 9 (D 2 + 1))) else up1 D 2 (min 9 (D 2 + 1))) I2 → Q none n I2 J R) : E g mX12_turns0 (d + 2) 0 0 0 (ent 2 [.ref 114, .int (nI k)]) [] n I J R Q := by
  obtain ⟨o0, o1, o2, o3, o4, o5, o6, o7, o8, o9⟩ := hO
  by_cases hz : 5 < min 9 (D 2 + 1)
  · rw [if_pos hz] at hQ
    refine E_aload_n dX12_turns0_0 rfl ?_
    refine E_getR dX12_turns0_1 f_X12_7 rfl (Nat.lt_of_lt_of_le (by decide) hN) rfl (hR _ _ _ rfl) ?_
    refine E_bp (nI 24) dX12_turns0_4 (by decide) ?_
    refine E_iload_n dX12_turns0_6 rfl ?_
    refine E_iadd dX12_turns0_7 ?_
    refine E.top (nI_add 24 k) ?_
    refine E_bp (nI 9) dX12_turns0_8 (by decide) ?_
    refine E_aload_n dX12_turns0_10 rfl ?_
    refine E_getR dX12_turns0_11 f_X12_7 rfl (Nat.lt_of_lt_of_le (by decide) hN) rfl (hR _ _ _ rfl) ?_
    refine E_bp (nI 24) dX12_turns0_14 (by decide) ?_
    refine E_iload_n dX12_turns0_16 rfl ?_
    refine E_iadd dX12_turns0_17 ?_
    refine E.top (nI_add 24 k) ?_
    refine E_ialdN dX12_turns0_18 rfl (Nat.lt_of_lt_of_le (by decide) hN) (by omega) ?_
    refine E.top (hD.1.2.2.1) ?_
    refine E_ic (nI 1) dX12_turns0_19 (by decide) ?_
    refine E_iadd dX12_turns0_20 ?_
    refine E.top (nI_add (D 2) 1) ?_
    refine E_callS (As := [_, _]) (kc' := 0) (ks' := 0) (kc := 0) (ks := 0) dX12_turns0_21 ok_X12_min w_X12_292 st_X12_min rfl rfl rfl (Nat.le_of_ble_eq_true rfl) (Nat.le_of_ble_eq_true rfl) (Nat.le_refl _) (m_min ?_)
    refine E.top (mn_n (by decide) (by omega)) ?_
    refine E_iastN dX12_turns0_24 rfl (Nat.lt_of_lt_of_le (by decide) hN) (by omega) ?_
    refine E_aload_n dX12_turns0_25 rfl ?_
    refine E_getR dX12_turns0_26 f_X12_7 rfl (Nat.lt_of_lt_of_le (by decide) hN) rfl (hR _ _ _ rfl) ?_
    refine E_bp (nI 24) dX12_turns0_29 (by decide) ?_
    refine E_iload_n dX12_turns0_31 rfl ?_
    refine E_iadd dX12_turns0_32 ?_
    refine E.top (nI_add 24 k) ?_
    refine E_ialdN dX12_turns0_33 rfl (Nat.lt_of_lt_of_le (by decide) hN) (by omega) ?_
    refine E.top (up2_s _ _ _ _) ?_
    refine E_ic (nI 5) dX12_turns0_34 (by decide) ?_
    refine E_cN_le (a := min 9 (D 2 + 1)) (b := 5) (tgt := 44) dX12_turns0_35 (by omega) (by decide) (by decide) (fun cw35 => absurd cw35 (by omega)) (fun cw35 => ?_)
    refine E_aload_n dX12_turns0_38 rfl ?_
    refine E_iload_n dX12_turns0_39 rfl ?_
    refine E_ic (nI 1) dX12_turns0_40 (by decide) ?_
    refine E_callV (As := [_, _]) (ci := 11) (kc' := 0) (ks' := 0) (kc := 0) (ks := 0) dX12_turns0_41 ok_X12_corkLess w_X12_301 i_X12_corkLess s_X12_corkLess rfl (by decide) rfl (Nat.lt_of_lt_of_le (by decide) hN) rfl rfl rfl (Nat.le_of_ble_eq_true rfl) (Nat.le_of_ble_eq_true rfl) (Nat.le_refl _) (m_corkLess1 (d := d) (b := 1) (D := up1 D 2 (min 9 (D 2 + 1))) hN hR hk hq hLN (hX.keep (hD.st hk (j := 2) (v := min 9 (D 2 + 1)) (by omega)).2) ⟨o0, o1, by show min 9 (D 2 + 1) ≤ 9; omega, o3, o4, o5, fun z => by have : D 4 = 1 := z; omega, o7, o8, o9⟩ (hD.st hk (j := 2) (v := min 9 (D 2 + 1)) (by omega)).1 (by decide) (fun I3 f3 d3 => ?_))
    exact E_ret dX12_turns0_44 rfl (hQ I3 ((hD.st hk (j := 2) (v := min 9 (D 2 + 1)) (by omega)).2.trans f3) d3)
  · rw [if_neg hz] at hQ
    refine E_aload_n dX12_turns0_0 rfl ?_
    refine E_getR dX12_turns0_1 f_X12_7 rfl (Nat.lt_of_lt_of_le (by decide) hN) rfl (hR _ _ _ rfl) ?_
    refine E_bp (nI 24) dX12_turns0_4 (by decide) ?_
    refine E_iload_n dX12_turns0_6 rfl ?_
    refine E_iadd dX12_turns0_7 ?_
    refine E.top (nI_add 24 k) ?_
    refine E_bp (nI 9) dX12_turns0_8 (by decide) ?_
    refine E_aload_n dX12_turns0_10 rfl ?_
    refine E_getR dX12_turns0_11 f_X12_7 rfl (Nat.lt_of_lt_of_le (by decide) hN) rfl (hR _ _ _ rfl) ?_
    refine E_bp (nI 24) dX12_turns0_14 (by decide) ?_
    refine E_iload_n dX12_turns0_16 rfl ?_
    refine E_iadd dX12_turns0_17 ?_
    refine E.top (nI_add 24 k) ?_
    refine E_ialdN dX12_turns0_18 rfl (Nat.lt_of_lt_of_le (by decide) hN) (by omega) ?_
    refine E.top (hD.1.2.2.1) ?_
    refine E_ic (nI 1) dX12_turns0_19 (by decide) ?_
    refine E_iadd dX12_turns0_20 ?_
    refine E.top (nI_add (D 2) 1) ?_
    refine E_callS (As := [_, _]) (kc' := 0) (ks' := 0) (kc := 0) (ks := 0) dX12_turns0_21 ok_X12_min w_X12_292 st_X12_min rfl rfl rfl (Nat.le_of_ble_eq_true rfl) (Nat.le_of_ble_eq_true rfl) (Nat.le_refl _) (m_min ?_)
    refine E.top (mn_n (by decide) (by omega)) ?_
    refine E_iastN dX12_turns0_24 rfl (Nat.lt_of_lt_of_le (by decide) hN) (by omega) ?_
    refine E_aload_n dX12_turns0_25 rfl ?_
    refine E_getR dX12_turns0_26 f_X12_7 rfl (Nat.lt_of_lt_of_le (by decide) hN) rfl (hR _ _ _ rfl) ?_
    refine E_bp (nI 24) dX12_turns0_29 (by decide) ?_
    refine E_iload_n dX12_turns0_31 rfl ?_
    refine E_iadd dX12_turns0_32 ?_
    refine E.top (nI_add 24 k) ?_
    refine E_ialdN dX12_turns0_33 rfl (Nat.lt_of_lt_of_le (by decide) hN) (by omega) ?_
    refine E.top (up2_s _ _ _ _) ?_
    refine E_ic (nI 5) dX12_turns0_34 (by decide) ?_
    refine E_cN_le (a := min 9 (D 2 + 1)) (b := 5) (tgt := 44) dX12_turns0_35 (by omega) (by decide) (by decide) (fun cw35 => ?_) (fun cw35 => absurd cw35 (by omega))
    exact E_ret dX12_turns0_44 rfl (hQ _ (hD.st hk (j := 2) (v := min 9 (D 2 + 1)) (by omega)).2 (hD.st hk (j := 2) (v := min 9 (D 2 + 1)) (by omega)).1)
set_option maxRecDepth 100000 in
set_option maxHeartbeats 2000000 in
theorem m_unstops1 (hN : 152 ≤ n) (hR : RS R) (hk : k < 12) (hq : LWF q) (hLN : LN ≤ 24) (hX : MCr k LN Y S q I) (hO : okD LN D) (hD : MDr k 1 c0 Y D I) (hQ : ∀ I2 : IM, MFr k 1 I I2 → MDr k 1 c0 Y (opD D) I2 → Q none n I2 J R) : E g mX12_unstops d 0 0 0 (ent 2 [.ref 114, .int (nI k)]) [] n I J R Q := by
  refine E_aload_n dX12_unstops_0 rfl ?_
  refine E_getR dX12_unstops_1 f_X12_7 rfl (Nat.lt_of_lt_of_le (by decide) hN) rfl (hR _ _ _ rfl) ?_
  refine E_bp (nI 36) dX12_unstops_4 (by decide) ?_
  refine E_iload_n dX12_unstops_6 rfl ?_
  refine E_iadd dX12_unstops_7 ?_
  refine E.top (nI_add 36 k) ?_
  refine E_ic (nI 1) dX12_unstops_8 (by decide) ?_
  refine E_iastN dX12_unstops_9 rfl (Nat.lt_of_lt_of_le (by decide) hN) (by omega) ?_
  refine E_aload_n dX12_unstops_10 rfl ?_
  refine E_getR dX12_unstops_11 f_X12_7 rfl (Nat.lt_of_lt_of_le (by decide) hN) rfl (hR _ _ _ rfl) ?_
  refine E_bp (nI 24) dX12_unstops_14 (by decide) ?_
  refine E_iload_n dX12_unstops_16 rfl ?_
  refine E_iadd dX12_unstops_17 ?_
  refine E.top (nI_add 24 k) ?_
  refine E_ic (nI 0) dX12_unstops_18 (by decide) ?_
  refine E_iastN dX12_unstops_19 rfl (Nat.lt_of_lt_of_le (by decide) hN) (by omega) ?_
  exact E_ret dX12_unstops_20 rfl (hQ _ ((hD.st hk (j := 4) (v := 1) (by omega)).2.trans ((hD.st hk (j := 4) (v := 1) (by omega)).1.st hk (j := 2) (v := 0) (by omega)).2) ((hD.st hk (j := 4) (v := 1) (by omega)).1.st hk (j := 2) (v := 0) (by omega)).1)
set_option maxRecDepth 100000 in
set_option maxHeartbeats 2000000 in
theorem m_pulls1 (hN : 152 ≤ n) (hR : RS R) (hk : k < 12) (hq : LWF q) (hLN : LN ≤ 24) (hX : MCr k LN Y S q I) (hO : okD LN D) (hD : MDr k 1 c0 Y D I) (hF : ∀ j, j < 9 → I 134 j = fcI k LN Y S D i w j) (hQ : ∀ I2 : IM, MFr k 1 I I2 → MDr k 1 c0 Y (if (amQ q (fcI k LN Y S D i w) 103 9) ≤ D 2 ∧ (brQ q (fcI k LN Y S D i w)) = 0 then opD D else lsD 2 D) I2 → Q none n I2 J R) : E g mX12_pulls (d + 4) 0 0 0 (ent 3 [.ref 114, .int (nI k)]) [] n I J R Q := by
  have hO0 := hO
  have alm := amQ_le q (fcI k LN Y S D i w) 103 9
  have blm := brQ_le q (fcI k LN Y S D i w)
  obtain ⟨o0, o1, o2, o3, o4, o5, o6, o7, o8, o9⟩ := hO
  by_cases hc : (amQ q (fcI k LN Y S D i w) 103 9) ≤ D 2
  · by_cases hb : (brQ q (fcI k LN Y S D i w)) = 0
    · rw [if_pos ⟨hc, hb⟩] at hQ
      refine E_aload_n dX12_pulls_0 rfl ?_
      refine E_getR dX12_pulls_1 f_X12_7 rfl (Nat.lt_of_lt_of_le (by decide) hN) rfl (hR _ _ _ rfl) ?_
      refine E_bp (nI 24) dX12_pulls_4 (by decide) ?_
      refine E_iload_n dX12_pulls_6 rfl ?_
      refine E_iadd dX12_pulls_7 ?_
      refine E.top (nI_add 24 k) ?_
      refine E_ialdN dX12_pulls_8 rfl (Nat.lt_of_lt_of_le (by decide) hN) (by omega) ?_
      refine E.top (hD.1.2.2.1) ?_
      refine E_aload_n dX12_pulls_9 rfl ?_
      refine E_bp (nI 103) dX12_pulls_10 (by decide) ?_
      refine E_bp (nI 9) dX12_pulls_12 (by decide) ?_
      refine E_callV (As := [_, _]) (ci := 11) (kc' := 0) (ks' := 0) (kc := 0) (ks := 0) dX12_pulls_14 ok_X12_byLaw w_X12_304 i_X12_byLaw s_X12_byLaw rfl (by decide) rfl (Nat.lt_of_lt_of_le (by decide) hN) rfl rfl rfl (Nat.le_of_ble_eq_true rfl) (Nat.le_of_ble_eq_true rfl) (Nat.le_refl _) (m_byLaw (d := d + 1) (q := q) (fa := (fcI k LN Y S D i w)) (w := 103) (mo := 9) hN hR hq hX.2.2 hF (by decide) (by decide) (by decide) (fun I3 f_I3 => ?_))
      refine E_cN_lt (a := D 2) (b := amQ q (fcI k LN Y S D i w) 103 9) (tgt := 33) dX12_pulls_17 (by omega) (by omega) (by decide) (fun cw17 => absurd cw17 (by omega)) (fun cw17 => ?_)
      refine E_aload_n dX12_pulls_20 rfl ?_
      refine E_bp (nI 120) dX12_pulls_21 (by decide) ?_
      refine E_callV (As := [_]) (ci := 11) (kc' := 0) (ks' := 0) (kc := 0) (ks := 0) dX12_pulls_23 ok_X12_holdsAny w_X12_307 i_X12_holdsAny s_X12_holdsAny rfl (by decide) rfl (Nat.lt_of_lt_of_le (by decide) hN) rfl rfl rfl (Nat.le_of_ble_eq_true rfl) (Nat.le_of_ble_eq_true rfl) (Nat.le_refl _) (m_holdsAny (d := d + 1) (q := q) (fa := (fcI k LN Y S D i w)) hN hR hq (hX.keep (MFr.row (k := k) (wr := 1) f_I3 (by decide))).2.2 (fun j hj => (congrFun (f_I3 134 (by decide)) j).trans (hF j hj)) (fun I4 f_I4 => ?_))
      refine E_zN_ne (a := brQ q (fcI k LN Y S D i w)) (tgt := 33) dX12_pulls_26 (by omega) (by decide) (fun cw26 => absurd cw26 (by omega)) (fun cw26 => ?_)
      refine E_ic (nI 1) dX12_pulls_29 (by decide) ?_
      refine E_goto (tgt := 34) dX12_pulls_30 (by decide) ?_
      refine E_istore_n dX12_pulls_34 (Nat.le_of_ble_eq_true rfl) ?_
      refine E_iload_n dX12_pulls_35 rfl ?_
      refine E_zN_eq (a := 1) (tgt := 47) dX12_pulls_36 (by decide) (by decide) (fun cw36 => absurd cw36 (by omega)) (fun cw36 => ?_)
      refine E_aload_n dX12_pulls_39 rfl ?_
      refine E_iload_n dX12_pulls_40 rfl ?_
      refine E_callV (As := [_]) (ci := 11) (kc' := 0) (ks' := 0) (kc := 0) (ks := 0) dX12_pulls_41 ok_X12_unstops w_X12_310 i_X12_unstops s_X12_unstops rfl (by decide) rfl (Nat.lt_of_lt_of_le (by decide) hN) rfl rfl rfl (Nat.le_of_ble_eq_true rfl) (Nat.le_of_ble_eq_true rfl) (Nat.le_refl _) (m_unstops1 (D := D) hN hR hk hq hLN (hX.keep ((MFr.row (k := k) (wr := 1) f_I3 (by decide)).trans (MFr.row f_I4 (by decide)))) hO0 ((hD.row (f_I3 114 (by decide)) (f_I3 115 (by decide))).row (f_I4 114 (by decide)) (f_I4 115 (by decide))) (fun I5 f5 d5 => ?_))
      refine E_goto (tgt := 53) dX12_pulls_44 (by decide) ?_
      exact E_ret dX12_pulls_53 rfl (hQ I5 (((MFr.row (k := k) (wr := 1) f_I3 (by decide)).trans (MFr.row f_I4 (by decide))).trans f5) d5)
    · rw [if_neg (fun z => hb z.2)] at hQ
      refine E_aload_n dX12_pulls_0 rfl ?_
      refine E_getR dX12_pulls_1 f_X12_7 rfl (Nat.lt_of_lt_of_le (by decide) hN) rfl (hR _ _ _ rfl) ?_
      refine E_bp (nI 24) dX12_pulls_4 (by decide) ?_
      refine E_iload_n dX12_pulls_6 rfl ?_
      refine E_iadd dX12_pulls_7 ?_
      refine E.top (nI_add 24 k) ?_
      refine E_ialdN dX12_pulls_8 rfl (Nat.lt_of_lt_of_le (by decide) hN) (by omega) ?_
      refine E.top (hD.1.2.2.1) ?_
      refine E_aload_n dX12_pulls_9 rfl ?_
      refine E_bp (nI 103) dX12_pulls_10 (by decide) ?_
      refine E_bp (nI 9) dX12_pulls_12 (by decide) ?_
      refine E_callV (As := [_, _]) (ci := 11) (kc' := 0) (ks' := 0) (kc := 0) (ks := 0) dX12_pulls_14 ok_X12_byLaw w_X12_304 i_X12_byLaw s_X12_byLaw rfl (by decide) rfl (Nat.lt_of_lt_of_le (by decide) hN) rfl rfl rfl (Nat.le_of_ble_eq_true rfl) (Nat.le_of_ble_eq_true rfl) (Nat.le_refl _) (m_byLaw (d := d + 1) (q := q) (fa := (fcI k LN Y S D i w)) (w := 103) (mo := 9) hN hR hq hX.2.2 hF (by decide) (by decide) (by decide) (fun I3 f_I3 => ?_))
      refine E_cN_lt (a := D 2) (b := amQ q (fcI k LN Y S D i w) 103 9) (tgt := 33) dX12_pulls_17 (by omega) (by omega) (by decide) (fun cw17 => absurd cw17 (by omega)) (fun cw17 => ?_)
      refine E_aload_n dX12_pulls_20 rfl ?_
      refine E_bp (nI 120) dX12_pulls_21 (by decide) ?_
      refine E_callV (As := [_]) (ci := 11) (kc' := 0) (ks' := 0) (kc := 0) (ks := 0) dX12_pulls_23 ok_X12_holdsAny w_X12_307 i_X12_holdsAny s_X12_holdsAny rfl (by decide) rfl (Nat.lt_of_lt_of_le (by decide) hN) rfl rfl rfl (Nat.le_of_ble_eq_true rfl) (Nat.le_of_ble_eq_true rfl) (Nat.le_refl _) (m_holdsAny (d := d + 1) (q := q) (fa := (fcI k LN Y S D i w)) hN hR hq (hX.keep (MFr.row (k := k) (wr := 1) f_I3 (by decide))).2.2 (fun j hj => (congrFun (f_I3 134 (by decide)) j).trans (hF j hj)) (fun I4 f_I4 => ?_))
      refine E_zN_ne (a := brQ q (fcI k LN Y S D i w)) (tgt := 33) dX12_pulls_26 (by omega) (by decide) (fun cw26 => ?_) (fun cw26 => absurd cw26 (by omega))
      refine E_ic (nI 0) dX12_pulls_33 (by decide) ?_
      refine E_istore_n dX12_pulls_34 (Nat.le_of_ble_eq_true rfl) ?_
      refine E_iload_n dX12_pulls_35 rfl ?_
      refine E_zN_eq (a := 0) (tgt := 47) dX12_pulls_36 (by decide) (by decide) (fun cw36 => ?_) (fun cw36 => absurd cw36 (by omega))
      refine E_aload_n dX12_pulls_47 rfl ?_
      refine E_iload_n dX12_pulls_48 rfl ?_
      refine E_ic (nI 2) dX12_pulls_49 (by decide) ?_
      refine E_callV (As := [_, _]) (ci := 11) (kc' := 0) (ks' := 0) (kc := 0) (ks := 0) dX12_pulls_50 ok_X12_corkLess w_X12_301 i_X12_corkLess s_X12_corkLess rfl (by decide) rfl (Nat.lt_of_lt_of_le (by decide) hN) rfl rfl rfl (Nat.le_of_ble_eq_true rfl) (Nat.le_of_ble_eq_true rfl) (Nat.le_refl _) (m_corkLess1 (d := d + 2) (b := 2) (D := D) hN hR hk hq hLN (hX.keep ((MFr.row (k := k) (wr := 1) f_I3 (by decide)).trans (MFr.row f_I4 (by decide)))) hO0 ((hD.row (f_I3 114 (by decide)) (f_I3 115 (by decide))).row (f_I4 114 (by decide)) (f_I4 115 (by decide))) (by decide) (fun I5 f5 d5 => ?_))
      exact E_ret dX12_pulls_53 rfl (hQ I5 (((MFr.row (k := k) (wr := 1) f_I3 (by decide)).trans (MFr.row f_I4 (by decide))).trans f5) d5)
  · rw [if_neg (fun z => hc z.1)] at hQ
    refine E_aload_n dX12_pulls_0 rfl ?_
    refine E_getR dX12_pulls_1 f_X12_7 rfl (Nat.lt_of_lt_of_le (by decide) hN) rfl (hR _ _ _ rfl) ?_
    refine E_bp (nI 24) dX12_pulls_4 (by decide) ?_
    refine E_iload_n dX12_pulls_6 rfl ?_
    refine E_iadd dX12_pulls_7 ?_
    refine E.top (nI_add 24 k) ?_
    refine E_ialdN dX12_pulls_8 rfl (Nat.lt_of_lt_of_le (by decide) hN) (by omega) ?_
    refine E.top (hD.1.2.2.1) ?_
    refine E_aload_n dX12_pulls_9 rfl ?_
    refine E_bp (nI 103) dX12_pulls_10 (by decide) ?_
    refine E_bp (nI 9) dX12_pulls_12 (by decide) ?_
    refine E_callV (As := [_, _]) (ci := 11) (kc' := 0) (ks' := 0) (kc := 0) (ks := 0) dX12_pulls_14 ok_X12_byLaw w_X12_304 i_X12_byLaw s_X12_byLaw rfl (by decide) rfl (Nat.lt_of_lt_of_le (by decide) hN) rfl rfl rfl (Nat.le_of_ble_eq_true rfl) (Nat.le_of_ble_eq_true rfl) (Nat.le_refl _) (m_byLaw (d := d + 1) (q := q) (fa := (fcI k LN Y S D i w)) (w := 103) (mo := 9) hN hR hq hX.2.2 hF (by decide) (by decide) (by decide) (fun I3 f_I3 => ?_))
    refine E_cN_lt (a := D 2) (b := amQ q (fcI k LN Y S D i w) 103 9) (tgt := 33) dX12_pulls_17 (by omega) (by omega) (by decide) (fun cw17 => ?_) (fun cw17 => absurd cw17 (by omega))
    refine E_ic (nI 0) dX12_pulls_33 (by decide) ?_
    refine E_istore_n dX12_pulls_34 (Nat.le_of_ble_eq_true rfl) ?_
    refine E_iload_n dX12_pulls_35 rfl ?_
    refine E_zN_eq (a := 0) (tgt := 47) dX12_pulls_36 (by decide) (by decide) (fun cw36 => ?_) (fun cw36 => absurd cw36 (by omega))
    refine E_aload_n dX12_pulls_47 rfl ?_
    refine E_iload_n dX12_pulls_48 rfl ?_
    refine E_ic (nI 2) dX12_pulls_49 (by decide) ?_
    refine E_callV (As := [_, _]) (ci := 11) (kc' := 0) (ks' := 0) (kc := 0) (ks := 0) dX12_pulls_50 ok_X12_corkLess w_X12_301 i_X12_corkLess s_X12_corkLess rfl (by decide) rfl (Nat.lt_of_lt_of_le (by decide) hN) rfl rfl rfl (Nat.le_of_ble_eq_true rfl) (Nat.le_of_ble_eq_true rfl) (Nat.le_refl _) (m_corkLess1 (d := d + 2) (b := 2) (D := D) hN hR hk hq hLN (hX.keep (MFr.row (k := k) (wr := 1) f_I3 (by decide))) hO0 (hD.row (f_I3 114 (by decide)) (f_I3 115 (by decide))) (by decide) (fun I5 f5 d5 => ?_))
    exact E_ret dX12_pulls_53 rfl (hQ I5 ((MFr.row (k := k) (wr := 1) f_I3 (by decide)).trans f5) d5)
set_option maxRecDepth 100000 in
set_option maxHeartbeats 2000000 in
theorem m_shakes1 (hN : 152 ≤ n) (hR : RS R) (hk : k < 12) (hq : LWF q) (hLN : LN ≤ 24) (hX : MCr k LN Y S q I) (hO : okD LN D) (hD : MDr k 1 c0 Y D I) (hF : ∀ j, j < 9 → I 134 j = fcI k LN Y S D i w j) (hQ : ∀ I2 : IM, MFr k 1 I I2 → MDr k 1 c0 Y (d2D LN (amQ q (fcI k LN Y S D i w) 102 19) D) I2 → Q none n I2 J R) : E g mX12_shakes (d + 4) 0 0 0 (ent 2 [.ref 114, .int (nI k)]) [] n I J R Q := by
  have hO0 := hO
  have alm := amQ_le q (fcI k LN Y S D i w) 102 19
  obtain ⟨o0, o1, o2, o3, o4, o5, o6, o7, o8, o9⟩ := hO
  by_cases h4 : D 4 = 0
  · by_cases hz : min 19 (D 0 + amQ q (fcI k LN Y S D i w) 102 19) = 19
    · rw [show d2D LN (amQ q (fcI k LN Y S D i w) 102 19) D = cmD LN 1 (opD (up1 D 0 (min 19 (D 0 + amQ q (fcI k LN Y S D i w) 102 19)))) from if_pos ⟨h4, hz⟩] at hQ
      refine E_aload_n dX12_shakes_0 rfl ?_
      refine E_getR dX12_shakes_1 f_X12_7 rfl (Nat.lt_of_lt_of_le (by decide) hN) rfl (hR _ _ _ rfl) ?_
      refine E_ic (nI 0) dX12_shakes_4 (by decide) ?_
      refine E_iload_n dX12_shakes_5 rfl ?_
      refine E_iadd dX12_shakes_6 ?_
      refine E.top (nI_add 0 k) ?_
      refine E.top (congrArg nI (Nat.zero_add k)) ?_
      refine E_bp (nI 19) dX12_shakes_7 (by decide) ?_
      refine E_aload_n dX12_shakes_9 rfl ?_
      refine E_getR dX12_shakes_10 f_X12_7 rfl (Nat.lt_of_lt_of_le (by decide) hN) rfl (hR _ _ _ rfl) ?_
      refine E_ic (nI 0) dX12_shakes_13 (by decide) ?_
      refine E_iload_n dX12_shakes_14 rfl ?_
      refine E_iadd dX12_shakes_15 ?_
      refine E.top (nI_add 0 k) ?_
      refine E.top (congrArg nI (Nat.zero_add k)) ?_
      refine E_ialdN dX12_shakes_16 rfl (Nat.lt_of_lt_of_le (by decide) hN) (by omega) ?_
      refine E.top (hD.1.1) ?_
      refine E_aload_n dX12_shakes_17 rfl ?_
      refine E_bp (nI 102) dX12_shakes_18 (by decide) ?_
      refine E_bp (nI 19) dX12_shakes_20 (by decide) ?_
      refine E_callV (As := [_, _]) (ci := 11) (kc' := 0) (ks' := 0) (kc := 0) (ks := 0) dX12_shakes_22 ok_X12_byLaw w_X12_304 i_X12_byLaw s_X12_byLaw rfl (by decide) rfl (Nat.lt_of_lt_of_le (by decide) hN) rfl rfl rfl (Nat.le_of_ble_eq_true rfl) (Nat.le_of_ble_eq_true rfl) (Nat.le_refl _) (m_byLaw (d := d + 1) (q := q) (fa := (fcI k LN Y S D i w)) (w := 102) (mo := 19) hN hR hq hX.2.2 hF (by decide) (by decide) (by decide) (fun I3 f_I3 => ?_))
      refine E_iadd dX12_shakes_25 ?_
      refine E.top (nI_add (D 0) (amQ q (fcI k LN Y S D i w) 102 19)) ?_
      refine E_callS (As := [_, _]) (kc' := 0) (ks' := 0) (kc := 0) (ks := 0) dX12_shakes_26 ok_X12_min w_X12_292 st_X12_min rfl rfl rfl (Nat.le_of_ble_eq_true rfl) (Nat.le_of_ble_eq_true rfl) (Nat.le_refl _) (m_min ?_)
      refine E.top (mn_n (by decide) (by omega)) ?_
      refine E_iastN dX12_shakes_29 rfl (Nat.lt_of_lt_of_le (by decide) hN) (by omega) ?_
      refine E_aload_n dX12_shakes_30 rfl ?_
      refine E_getR dX12_shakes_31 f_X12_7 rfl (Nat.lt_of_lt_of_le (by decide) hN) rfl (hR _ _ _ rfl) ?_
      refine E_bp (nI 36) dX12_shakes_34 (by decide) ?_
      refine E_iload_n dX12_shakes_36 rfl ?_
      refine E_iadd dX12_shakes_37 ?_
      refine E.top (nI_add 36 k) ?_
      refine E_ialdN dX12_shakes_38 rfl (Nat.lt_of_lt_of_le (by decide) hN) (by omega) ?_
      refine E.top (((hD.row (f_I3 114 (by decide)) (f_I3 115 (by decide))).st hk (j := 0) (v := min 19 (D 0 + amQ q (fcI k LN Y S D i w) 102 19)) (by omega)).1.1.2.2.2.2.1) ?_
      refine E_ic (nI 1) dX12_shakes_39 (by decide) ?_
      refine E_cN_eq (a := D 4) (b := 1) (tgt := 56) dX12_shakes_40 (by omega) (by decide) (by decide) (fun cw40 => absurd cw40 (by omega)) (fun cw40 => ?_)
      refine E_aload_n dX12_shakes_43 rfl ?_
      refine E_getR dX12_shakes_44 f_X12_7 rfl (Nat.lt_of_lt_of_le (by decide) hN) rfl (hR _ _ _ rfl) ?_
      refine E_ic (nI 0) dX12_shakes_47 (by decide) ?_
      refine E_iload_n dX12_shakes_48 rfl ?_
      refine E_iadd dX12_shakes_49 ?_
      refine E.top (nI_add 0 k) ?_
      refine E.top (congrArg nI (Nat.zero_add k)) ?_
      refine E_ialdN dX12_shakes_50 rfl (Nat.lt_of_lt_of_le (by decide) hN) (by omega) ?_
      refine E.top (up2_s _ _ _ _) ?_
      refine E_bp (nI 19) dX12_shakes_51 (by decide) ?_
      refine E_cN_ge (a := min 19 (D 0 + amQ q (fcI k LN Y S D i w) 102 19)) (b := 19) (tgt := 57) dX12_shakes_53 (by omega) (by decide) (by decide) (fun cw53 => ?_) (fun cw53 => absurd cw53 (by omega))
      refine E_aload_n dX12_shakes_57 rfl ?_
      refine E_iload_n dX12_shakes_58 rfl ?_
      refine E_callV (As := [_]) (ci := 11) (kc' := 0) (ks' := 0) (kc := 0) (ks := 0) dX12_shakes_59 ok_X12_unstops w_X12_310 i_X12_unstops s_X12_unstops rfl (by decide) rfl (Nat.lt_of_lt_of_le (by decide) hN) rfl rfl rfl (Nat.le_of_ble_eq_true rfl) (Nat.le_of_ble_eq_true rfl) (Nat.le_refl _) (m_unstops1 (D := (up1 D 0 (min 19 (D 0 + amQ q (fcI k LN Y S D i w) 102 19)))) hN hR hk hq hLN (hX.keep ((MFr.row (k := k) (wr := 1) f_I3 (by decide)).trans ((hD.row (f_I3 114 (by decide)) (f_I3 115 (by decide))).st hk (j := 0) (v := min 19 (D 0 + amQ q (fcI k LN Y S D i w) 102 19)) (by omega)).2)) (fzD_ok hO0 (by omega)) ((hD.row (f_I3 114 (by decide)) (f_I3 115 (by decide))).st hk (j := 0) (v := min 19 (D 0 + amQ q (fcI k LN Y S D i w) 102 19)) (by omega)).1 (fun I5 f5 d5 => ?_))
      refine E_aload_n dX12_shakes_62 rfl ?_
      refine E_iload_n dX12_shakes_63 rfl ?_
      refine E_callV (As := [_]) (ci := 11) (kc' := 0) (ks' := 0) (kc := 0) (ks := 0) dX12_shakes_64 ok_X12_layerComes w_X12_313 i_X12_layerComes s_X12_layerComes rfl (by decide) rfl (Nat.lt_of_lt_of_le (by decide) hN) rfl rfl rfl (Nat.le_of_ble_eq_true rfl) (Nat.le_of_ble_eq_true rfl) (Nat.le_refl _) (m_layerComes1 (d := d + 2) (D := opD (up1 D 0 (min 19 (D 0 + amQ q (fcI k LN Y S D i w) 102 19)))) hN hR hk hq hLN (hX.keep (((MFr.row (k := k) (wr := 1) f_I3 (by decide)).trans ((hD.row (f_I3 114 (by decide)) (f_I3 115 (by decide))).st hk (j := 0) (v := min 19 (D 0 + amQ q (fcI k LN Y S D i w) 102 19)) (by omega)).2).trans f5)) (opD_ok (fzD_ok hO0 (by omega))) d5 (fun I6 f6 d6 => ?_))
      exact E_ret dX12_shakes_67 rfl (hQ I6 (((MFr.row (k := k) (wr := 1) f_I3 (by decide)).trans ((hD.row (f_I3 114 (by decide)) (f_I3 115 (by decide))).st hk (j := 0) (v := min 19 (D 0 + amQ q (fcI k LN Y S D i w) 102 19)) (by omega)).2).trans (f5.trans f6)) d6)
    · rw [show d2D LN (amQ q (fcI k LN Y S D i w) 102 19) D = (up1 D 0 (min 19 (D 0 + amQ q (fcI k LN Y S D i w) 102 19))) from if_neg (fun z => hz z.2)] at hQ
      refine E_aload_n dX12_shakes_0 rfl ?_
      refine E_getR dX12_shakes_1 f_X12_7 rfl (Nat.lt_of_lt_of_le (by decide) hN) rfl (hR _ _ _ rfl) ?_
      refine E_ic (nI 0) dX12_shakes_4 (by decide) ?_
      refine E_iload_n dX12_shakes_5 rfl ?_
      refine E_iadd dX12_shakes_6 ?_
      refine E.top (nI_add 0 k) ?_
      refine E.top (congrArg nI (Nat.zero_add k)) ?_
      refine E_bp (nI 19) dX12_shakes_7 (by decide) ?_
      refine E_aload_n dX12_shakes_9 rfl ?_
      refine E_getR dX12_shakes_10 f_X12_7 rfl (Nat.lt_of_lt_of_le (by decide) hN) rfl (hR _ _ _ rfl) ?_
      refine E_ic (nI 0) dX12_shakes_13 (by decide) ?_
      refine E_iload_n dX12_shakes_14 rfl ?_
      refine E_iadd dX12_shakes_15 ?_
      refine E.top (nI_add 0 k) ?_
      refine E.top (congrArg nI (Nat.zero_add k)) ?_
      refine E_ialdN dX12_shakes_16 rfl (Nat.lt_of_lt_of_le (by decide) hN) (by omega) ?_
      refine E.top (hD.1.1) ?_
      refine E_aload_n dX12_shakes_17 rfl ?_
      refine E_bp (nI 102) dX12_shakes_18 (by decide) ?_
      refine E_bp (nI 19) dX12_shakes_20 (by decide) ?_
      refine E_callV (As := [_, _]) (ci := 11) (kc' := 0) (ks' := 0) (kc := 0) (ks := 0) dX12_shakes_22 ok_X12_byLaw w_X12_304 i_X12_byLaw s_X12_byLaw rfl (by decide) rfl (Nat.lt_of_lt_of_le (by decide) hN) rfl rfl rfl (Nat.le_of_ble_eq_true rfl) (Nat.le_of_ble_eq_true rfl) (Nat.le_refl _) (m_byLaw (d := d + 1) (q := q) (fa := (fcI k LN Y S D i w)) (w := 102) (mo := 19) hN hR hq hX.2.2 hF (by decide) (by decide) (by decide) (fun I3 f_I3 => ?_))
      refine E_iadd dX12_shakes_25 ?_
      refine E.top (nI_add (D 0) (amQ q (fcI k LN Y S D i w) 102 19)) ?_
      refine E_callS (As := [_, _]) (kc' := 0) (ks' := 0) (kc := 0) (ks := 0) dX12_shakes_26 ok_X12_min w_X12_292 st_X12_min rfl rfl rfl (Nat.le_of_ble_eq_true rfl) (Nat.le_of_ble_eq_true rfl) (Nat.le_refl _) (m_min ?_)
      refine E.top (mn_n (by decide) (by omega)) ?_
      refine E_iastN dX12_shakes_29 rfl (Nat.lt_of_lt_of_le (by decide) hN) (by omega) ?_
      refine E_aload_n dX12_shakes_30 rfl ?_
      refine E_getR dX12_shakes_31 f_X12_7 rfl (Nat.lt_of_lt_of_le (by decide) hN) rfl (hR _ _ _ rfl) ?_
      refine E_bp (nI 36) dX12_shakes_34 (by decide) ?_
      refine E_iload_n dX12_shakes_36 rfl ?_
      refine E_iadd dX12_shakes_37 ?_
      refine E.top (nI_add 36 k) ?_
      refine E_ialdN dX12_shakes_38 rfl (Nat.lt_of_lt_of_le (by decide) hN) (by omega) ?_
      refine E.top (((hD.row (f_I3 114 (by decide)) (f_I3 115 (by decide))).st hk (j := 0) (v := min 19 (D 0 + amQ q (fcI k LN Y S D i w) 102 19)) (by omega)).1.1.2.2.2.2.1) ?_
      refine E_ic (nI 1) dX12_shakes_39 (by decide) ?_
      refine E_cN_eq (a := D 4) (b := 1) (tgt := 56) dX12_shakes_40 (by omega) (by decide) (by decide) (fun cw40 => absurd cw40 (by omega)) (fun cw40 => ?_)
      refine E_aload_n dX12_shakes_43 rfl ?_
      refine E_getR dX12_shakes_44 f_X12_7 rfl (Nat.lt_of_lt_of_le (by decide) hN) rfl (hR _ _ _ rfl) ?_
      refine E_ic (nI 0) dX12_shakes_47 (by decide) ?_
      refine E_iload_n dX12_shakes_48 rfl ?_
      refine E_iadd dX12_shakes_49 ?_
      refine E.top (nI_add 0 k) ?_
      refine E.top (congrArg nI (Nat.zero_add k)) ?_
      refine E_ialdN dX12_shakes_50 rfl (Nat.lt_of_lt_of_le (by decide) hN) (by omega) ?_
      refine E.top (up2_s _ _ _ _) ?_
      refine E_bp (nI 19) dX12_shakes_51 (by decide) ?_
      refine E_cN_ge (a := min 19 (D 0 + amQ q (fcI k LN Y S D i w) 102 19)) (b := 19) (tgt := 57) dX12_shakes_53 (by omega) (by decide) (by decide) (fun cw53 => absurd cw53 (by omega)) (fun cw53 => ?_)
      exact E_ret dX12_shakes_56 rfl (hQ _ ((MFr.row (k := k) (wr := 1) f_I3 (by decide)).trans ((hD.row (f_I3 114 (by decide)) (f_I3 115 (by decide))).st hk (j := 0) (v := min 19 (D 0 + amQ q (fcI k LN Y S D i w) 102 19)) (by omega)).2) ((hD.row (f_I3 114 (by decide)) (f_I3 115 (by decide))).st hk (j := 0) (v := min 19 (D 0 + amQ q (fcI k LN Y S D i w) 102 19)) (by omega)).1)
  · rw [show d2D LN (amQ q (fcI k LN Y S D i w) 102 19) D = (up1 D 0 (min 19 (D 0 + amQ q (fcI k LN Y S D i w) 102 19))) from if_neg (fun z => h4 z.1)] at hQ
    refine E_aload_n dX12_shakes_0 rfl ?_
    refine E_getR dX12_shakes_1 f_X12_7 rfl (Nat.lt_of_lt_of_le (by decide) hN) rfl (hR _ _ _ rfl) ?_
    refine E_ic (nI 0) dX12_shakes_4 (by decide) ?_
    refine E_iload_n dX12_shakes_5 rfl ?_
    refine E_iadd dX12_shakes_6 ?_
    refine E.top (nI_add 0 k) ?_
    refine E.top (congrArg nI (Nat.zero_add k)) ?_
    refine E_bp (nI 19) dX12_shakes_7 (by decide) ?_
    refine E_aload_n dX12_shakes_9 rfl ?_
    refine E_getR dX12_shakes_10 f_X12_7 rfl (Nat.lt_of_lt_of_le (by decide) hN) rfl (hR _ _ _ rfl) ?_
    refine E_ic (nI 0) dX12_shakes_13 (by decide) ?_
    refine E_iload_n dX12_shakes_14 rfl ?_
    refine E_iadd dX12_shakes_15 ?_
    refine E.top (nI_add 0 k) ?_
    refine E.top (congrArg nI (Nat.zero_add k)) ?_
    refine E_ialdN dX12_shakes_16 rfl (Nat.lt_of_lt_of_le (by decide) hN) (by omega) ?_
    refine E.top (hD.1.1) ?_
    refine E_aload_n dX12_shakes_17 rfl ?_
    refine E_bp (nI 102) dX12_shakes_18 (by decide) ?_
    refine E_bp (nI 19) dX12_shakes_20 (by decide) ?_
    refine E_callV (As := [_, _]) (ci := 11) (kc' := 0) (ks' := 0) (kc := 0) (ks := 0) dX12_shakes_22 ok_X12_byLaw w_X12_304 i_X12_byLaw s_X12_byLaw rfl (by decide) rfl (Nat.lt_of_lt_of_le (by decide) hN) rfl rfl rfl (Nat.le_of_ble_eq_true rfl) (Nat.le_of_ble_eq_true rfl) (Nat.le_refl _) (m_byLaw (d := d + 1) (q := q) (fa := (fcI k LN Y S D i w)) (w := 102) (mo := 19) hN hR hq hX.2.2 hF (by decide) (by decide) (by decide) (fun I3 f_I3 => ?_))
    refine E_iadd dX12_shakes_25 ?_
    refine E.top (nI_add (D 0) (amQ q (fcI k LN Y S D i w) 102 19)) ?_
    refine E_callS (As := [_, _]) (kc' := 0) (ks' := 0) (kc := 0) (ks := 0) dX12_shakes_26 ok_X12_min w_X12_292 st_X12_min rfl rfl rfl (Nat.le_of_ble_eq_true rfl) (Nat.le_of_ble_eq_true rfl) (Nat.le_refl _) (m_min ?_)
    refine E.top (mn_n (by decide) (by omega)) ?_
    refine E_iastN dX12_shakes_29 rfl (Nat.lt_of_lt_of_le (by decide) hN) (by omega) ?_
    refine E_aload_n dX12_shakes_30 rfl ?_
    refine E_getR dX12_shakes_31 f_X12_7 rfl (Nat.lt_of_lt_of_le (by decide) hN) rfl (hR _ _ _ rfl) ?_
    refine E_bp (nI 36) dX12_shakes_34 (by decide) ?_
    refine E_iload_n dX12_shakes_36 rfl ?_
    refine E_iadd dX12_shakes_37 ?_
    refine E.top (nI_add 36 k) ?_
    refine E_ialdN dX12_shakes_38 rfl (Nat.lt_of_lt_of_le (by decide) hN) (by omega) ?_
    refine E.top (((hD.row (f_I3 114 (by decide)) (f_I3 115 (by decide))).st hk (j := 0) (v := min 19 (D 0 + amQ q (fcI k LN Y S D i w) 102 19)) (by omega)).1.1.2.2.2.2.1) ?_
    refine E_ic (nI 1) dX12_shakes_39 (by decide) ?_
    refine E_cN_eq (a := D 4) (b := 1) (tgt := 56) dX12_shakes_40 (by omega) (by decide) (by decide) (fun cw40 => ?_) (fun cw40 => absurd cw40 (by omega))
    exact E_ret dX12_shakes_56 rfl (hQ _ ((MFr.row (k := k) (wr := 1) f_I3 (by decide)).trans ((hD.row (f_I3 114 (by decide)) (f_I3 115 (by decide))).st hk (j := 0) (v := min 19 (D 0 + amQ q (fcI k LN Y S D i w) 102 19)) (by omega)).2) ((hD.row (f_I3 114 (by decide)) (f_I3 115 (by decide))).st hk (j := 0) (v := min 19 (D 0 + amQ q (fcI k LN Y S D i w) 102 19)) (by omega)).1)
set_option maxRecDepth 100000 in
set_option maxHeartbeats 2000000 in
theorem m_pours1 (hN : 152 ≤ n) (hR : RS R) (hk : k < 12) (hq : LWF q) (hLN : LN ≤ 24) (hX : MCr k LN Y S q I) (hO : okD LN D) (hD : MDr k 1 c0 Y D I) (hF : ∀ j, j < 9 → I 134 j = fcI k LN Y S D i w j) (hQ : ∀ I2 : IM, MFr k 1 I I2 → MDr k 1 c0 Y (up1 (cmD LN (amQ q (fcI k LN Y S D i w) 100 9) D) 0 (D 0 - min (amQ q (fcI k LN Y S D i w) 100 9) (LN - D 3))) I2 → Q none n I2 J R) : E g mX12_pours (d + 4) 0 0 0 (ent 4 [.ref 114, .int (nI k)]) [] n I J R Q := by
  have hO0 := hO
  have alm := amQ_le q (fcI k LN Y S D i w) 100 9
  obtain ⟨o0, o1, o2, o3, o4, o5, o6, o7, o8, o9⟩ := hO
  have L : ∀ j, j ≤ (min (amQ q (fcI k LN Y S D i w) 100 9) (LN - D 3)) → ∀ I2 : IM, (MFr k 1 I I2 ∧ MDr k 1 c0 Y (cmD LN j D) I2) → E g mX12_pours (d + 4) 0 0 19 [.ref 114, .int (nI k), .int (nI (min (amQ q (fcI k LN Y S D i w) 100 9) (LN - D 3))), .int (nI j)] [] n I2 J R Q := by
    refine loopU (min (amQ q (fcI k LN Y S D i w) 100 9) (LN - D 3)) (fun I2 hv => ?_) (fun j hj ih I2 hv => ?_)
    · refine E_iload_n dX12_pours_19 rfl ?_
      refine E_iload_n dX12_pours_20 rfl ?_
      refine E_cN_ge (a := min (amQ q (fcI k LN Y S D i w) 100 9) (LN - D 3)) (b := min (amQ q (fcI k LN Y S D i w) 100 9) (LN - D 3)) (tgt := 35) dX12_pours_21 (by omega) (by omega) (by decide) (fun cw21 => ?_) (fun cw21 => absurd cw21 (by omega))
      refine E_aload_n dX12_pours_35 rfl ?_
      refine E_getR dX12_pours_36 f_X12_7 rfl (Nat.lt_of_lt_of_le (by decide) hN) rfl (hR _ _ _ rfl) ?_
      refine E_ic (nI 0) dX12_pours_39 (by decide) ?_
      refine E_iload_n dX12_pours_40 rfl ?_
      refine E_iadd dX12_pours_41 ?_
      refine E.top (nI_add 0 k) ?_
      refine E.top (congrArg nI (Nat.zero_add k)) ?_
      refine E_ic (nI 0) dX12_pours_42 (by decide) ?_
      refine E_aload_n dX12_pours_43 rfl ?_
      refine E_getR dX12_pours_44 f_X12_7 rfl (Nat.lt_of_lt_of_le (by decide) hN) rfl (hR _ _ _ rfl) ?_
      refine E_ic (nI 0) dX12_pours_47 (by decide) ?_
      refine E_iload_n dX12_pours_48 rfl ?_
      refine E_iadd dX12_pours_49 ?_
      refine E.top (nI_add 0 k) ?_
      refine E.top (congrArg nI (Nat.zero_add k)) ?_
      refine E_ialdN dX12_pours_50 rfl (Nat.lt_of_lt_of_le (by decide) hN) (by omega) ?_
      refine E.top (hv.2.1.1) ?_
      refine E_iload_n dX12_pours_51 rfl ?_
      refine E_isub dX12_pours_52 ?_
      refine E_callS (As := [_, _]) (kc' := 0) (ks' := 0) (kc := 0) (ks := 0) dX12_pours_53 ok_X12_max w_X12_298 st_X12_max rfl rfl rfl (Nat.le_of_ble_eq_true rfl) (Nat.le_of_ble_eq_true rfl) (Nat.le_refl _) (m_maxI ?_)
      refine E.top (mx_n (a := D 0) (b := min (amQ q (fcI k LN Y S D i w) 100 9) (LN - D 3)) (by omega) (by omega)) ?_
      refine E_iastN dX12_pours_56 rfl (Nat.lt_of_lt_of_le (by decide) hN) (by omega) ?_
      exact E_ret dX12_pours_57 rfl (hQ _ (hv.1.trans (hv.2.st hk (j := 0) (v := D 0 - min (amQ q (fcI k LN Y S D i w) 100 9) (LN - D 3)) (by omega)).2) (by rw [← cm_m]; exact (hv.2.st hk (j := 0) (v := D 0 - min (amQ q (fcI k LN Y S D i w) 100 9) (LN - D 3)) (by omega)).1))
    · refine E_iload_n dX12_pours_19 rfl ?_
      refine E_iload_n dX12_pours_20 rfl ?_
      refine E_cN_ge (a := j) (b := min (amQ q (fcI k LN Y S D i w) 100 9) (LN - D 3)) (tgt := 35) dX12_pours_21 (by omega) (by omega) (by decide) (fun cw21 => absurd cw21 (by omega)) (fun cw21 => ?_)
      refine E_aload_n dX12_pours_24 rfl ?_
      refine E_iload_n dX12_pours_25 rfl ?_
      refine E_callV (As := [_]) (ci := 11) (kc' := 0) (ks' := 0) (kc := 0) (ks := 0) dX12_pours_26 ok_X12_layerComes w_X12_313 i_X12_layerComes s_X12_layerComes rfl (by decide) rfl (Nat.lt_of_lt_of_le (by decide) hN) rfl rfl rfl (Nat.le_of_ble_eq_true rfl) (Nat.le_of_ble_eq_true rfl) (Nat.le_refl _) (m_layerComes1 (d := d + 2) (D := cmD LN j D) hN hR hk hq hLN (hX.keep hv.1) (cmD_ok hO0) hv.2 (fun I6 f6 d6 => ?_))
      refine E_incN dX12_pours_29 rfl ?_
      refine E_goto (tgt := 19) dX12_pours_32 (by decide) ?_
      refine ih I6 ⟨hv.1.trans f6, ?_⟩
      rw [← cm_s (by omega)]
      exact d6
  refine E_aload_n dX12_pours_0 rfl ?_
  refine E_bp (nI 100) dX12_pours_1 (by decide) ?_
  refine E_bp (nI 9) dX12_pours_3 (by decide) ?_
  refine E_callV (As := [_, _]) (ci := 11) (kc' := 0) (ks' := 0) (kc := 0) (ks := 0) dX12_pours_5 ok_X12_byLaw w_X12_304 i_X12_byLaw s_X12_byLaw rfl (by decide) rfl (Nat.lt_of_lt_of_le (by decide) hN) rfl rfl rfl (Nat.le_of_ble_eq_true rfl) (Nat.le_of_ble_eq_true rfl) (Nat.le_refl _) (m_byLaw (d := d + 1) (q := q) (fa := (fcI k LN Y S D i w)) (w := 100) (mo := 9) hN hR hq hX.2.2 hF (by decide) (by decide) (by decide) (fun I3 f_I3 => ?_))
  refine E_aload_n dX12_pours_8 rfl ?_
  refine E_iload_n dX12_pours_9 rfl ?_
  refine E_callV (As := [_]) (ci := 11) (kc' := 0) (ks' := 0) (kc := 0) (ks := 0) dX12_pours_10 ok_X12_leftOf w_X12_286 i_X12_leftOf s_X12_leftOf rfl (by decide) rfl (Nat.lt_of_lt_of_le (by decide) hN) rfl rfl rfl (Nat.le_of_ble_eq_true rfl) (Nat.le_of_ble_eq_true rfl) (Nat.le_refl _) (m_lftD (d := d + 3) (D := D) hN hR hk (hX.keep (MFr.row (k := k) (wr := 1) f_I3 (by decide))) o3 (hD.row (f_I3 114 (by decide)) (f_I3 115 (by decide))) ?_)
  refine E_callS (As := [_, _]) (kc' := 0) (ks' := 0) (kc := 0) (ks := 0) dX12_pours_13 ok_X12_min w_X12_292 st_X12_min rfl rfl rfl (Nat.le_of_ble_eq_true rfl) (Nat.le_of_ble_eq_true rfl) (Nat.le_refl _) (m_min ?_)
  refine E.top (mn_n (a := amQ q (fcI k LN Y S D i w) 100 9) (b := LN - D 3) (by omega) (by omega)) ?_
  refine E_istore_n dX12_pours_16 (Nat.le_of_ble_eq_true rfl) ?_
  refine E_ic (nI 0) dX12_pours_17 (by decide) ?_
  refine E_istore_n dX12_pours_18 (Nat.le_of_ble_eq_true rfl) ?_
  refine L 0 (Nat.zero_le _) I3 ⟨(MFr.row (k := k) (wr := 1) f_I3 (by decide)), ?_⟩
  rw [cm_0 (show min 0 (LN - D 3) = 0 by omega)]
  exact (hD.row (f_I3 114 (by decide)) (f_I3 115 (by decide)))
theorem up1_sw {f : FN} {a v : Nat} : up1 (up1 f 2 a) 6 v = up1 (up1 f 6 v) 2 a := by
  funext x
  unfold up1
  by_cases h : x = 6
  · rw [if_pos h, if_neg (by omega), if_pos h]
  · rw [if_neg h]
    by_cases h2 : x = 2
    · rw [if_pos h2, if_pos h2]
    · rw [if_neg h2, if_neg h2, if_neg h]
theorem MDr.scr {k c0 : Nat} {Y D : FN} {I : IM} {v : Nat} (h : MDr k 1 c0 Y D I) (hk : k < 12 := by omega) : MDr k 1 c0 Y (up1 D 6 v) (up2 I 115 72 (nI v)) := by
  obtain ⟨⟨a0, a1, a2, a3, a4, a5⟩, b⟩ := h
  exact ⟨⟨(up2_k _ _ (by omega)).trans a0, (up2_k _ _ (by omega)).trans a1, (up2_k _ _ (by omega)).trans a2, (up2_k _ _ (by omega)).trans a3, (up2_k _ _ (by omega)).trans a4, (up2_k _ _ (by omega)).trans a5⟩, fun z => ⟨up2_s _ _ _ _, (congrFun (up2_o _ 115 _ _ 114 (by decide)) 40).trans (b z).2.1, (up2_k _ _ (by decide)).trans (b z).2.2.1, (congrFun (up2_o _ 115 _ _ 114 (by decide)) 41).trans (b z).2.2.2⟩⟩
set_option maxRecDepth 100000 in
set_option maxHeartbeats 2000000 in
theorem m_does01 (hN : 152 ≤ n) (hR : RS R) (hk : k < 12) (hq : LWF q) (hLN : LN ≤ 24) (hX : MCr k LN Y S q I) (hO : okD LN D) (hD : MDr k 1 c0 Y D I) (hF : ∀ j, j < 9 → I 134 j = fcI k LN Y S D i w j) (hQ : ∀ I2 : IM, MFr k 1 I I2 → MDr k 1 c0 Y (ddS q k LN Y S 0 i w D) I2 → Q none n I2 J R) : E g mX12_does (d + 5) 0 0 0 (ent 5 [.ref 114, .int (nI k), .int (nI 0), .int (nI 1)]) [] n I J R Q := by
  have hO0 := hO
  have alm := amQ_le q (fcI k LN Y S D i w) 97 19
  obtain ⟨o0, o1, o2, o3, o4, o5, o6, o7, o8, o9⟩ := hO
  by_cases h4 : D 4 = 0
  · by_cases h6 : 0 < D 6
    · rw [show ddS q k LN Y S 0 i w D = (if 5 < min 9 (D 2 + 1) then lsD 1 (up1 (up1 D 6 (D 6 - 1)) 2 (min 9 (D 2 + 1))) else up1 (up1 D 6 (D 6 - 1)) 2 (min 9 (D 2 + 1))) from (if_pos ⟨h4, h6⟩).trans (by rw [up1_sw])] at hQ
      refine E_aload_n dX12_does_0 rfl ?_
      refine E_getR dX12_does_1 f_X12_7 rfl (Nat.lt_of_lt_of_le (by decide) hN) rfl (hR _ _ _ rfl) ?_
      refine E_bp (nI 36) dX12_does_4 (by decide) ?_
      refine E_iload_n dX12_does_6 rfl ?_
      refine E_iadd dX12_does_7 ?_
      refine E.top (nI_add 36 k) ?_
      refine E_ialdN dX12_does_8 rfl (Nat.lt_of_lt_of_le (by decide) hN) (by omega) ?_
      refine E.top (hD.1.2.2.2.2.1) ?_
      refine E_zN_ne (a := D 4) (tgt := 16) dX12_does_9 (by omega) (by decide) (fun cw9 => absurd cw9 (by omega)) (fun cw9 => ?_)
      refine E_ic (nI 1) dX12_does_12 (by decide) ?_
      refine E_goto (tgt := 17) dX12_does_13 (by decide) ?_
      refine E_istore dX12_does_17 (Nat.le_of_ble_eq_true rfl) ?_
      refine E_iload_n dX12_does_19 rfl ?_
      refine E_tin (tgt := 56) dX12_does_20 (by decide) (by decide) rfl (by decide) ?_
      refine E_iload dX12_does_56 rfl ?_
      refine E_zN_eq (a := 1) (tgt := 75) dX12_does_58 (by decide) (by decide) (fun cw58 => absurd cw58 (by omega)) (fun cw58 => ?_)
      refine E_iload_n dX12_does_61 rfl ?_
      refine E_zN_eq (a := 1) (tgt := 76) dX12_does_62 (by decide) (by decide) (fun cw62 => absurd cw62 (by omega)) (fun cw62 => ?_)
      refine E_aload_n dX12_does_65 rfl ?_
      refine E_getR dX12_does_66 f_X12_7 rfl (Nat.lt_of_lt_of_le (by decide) hN) rfl (hR _ _ _ rfl) ?_
      refine E_bp (nI 72) dX12_does_69 (by decide) ?_
      refine E_ialdN dX12_does_71 rfl (Nat.lt_of_lt_of_le (by decide) hN) (by decide) ?_
      refine E.top ((hD.2 rfl).1) ?_
      refine E_zN_ne (a := D 6) (tgt := 76) dX12_does_72 (by omega) (by decide) (fun cw72 => ?_) (fun cw72 => absurd cw72 (by omega))
      refine E_iload_n dX12_does_76 rfl ?_
      refine E_zN_eq (a := 1) (tgt := 96) dX12_does_77 (by decide) (by decide) (fun cw77 => absurd cw77 (by omega)) (fun cw77 => ?_)
      refine E_aload_n dX12_does_80 rfl ?_
      refine E_getR dX12_does_81 f_X12_7 rfl (Nat.lt_of_lt_of_le (by decide) hN) rfl (hR _ _ _ rfl) ?_
      refine E_bp (nI 72) dX12_does_84 (by decide) ?_
      refine E_aload_n dX12_does_86 rfl ?_
      refine E_getR dX12_does_87 f_X12_7 rfl (Nat.lt_of_lt_of_le (by decide) hN) rfl (hR _ _ _ rfl) ?_
      refine E_bp (nI 72) dX12_does_90 (by decide) ?_
      refine E_ialdN dX12_does_92 rfl (Nat.lt_of_lt_of_le (by decide) hN) (by decide) ?_
      refine E.top ((hD.2 rfl).1) ?_
      refine E_ic (nI 1) dX12_does_93 (by decide) ?_
      refine E_isub dX12_does_94 ?_
      refine E.top (pk_sub (a := D 6) (b := 1) (by omega)) ?_
      refine E_iastN dX12_does_95 rfl (Nat.lt_of_lt_of_le (by decide) hN) (by decide) ?_
      refine E_aload_n dX12_does_96 rfl ?_
      refine E_iload_n dX12_does_97 rfl ?_
      refine E_callV (As := [_]) (ci := 11) (kc' := 0) (ks' := 0) (kc := 0) (ks := 0) dX12_does_98 ok_X12_turns0 w_X12_316 i_X12_turns0 s_X12_turns0 rfl (by decide) rfl (Nat.lt_of_lt_of_le (by decide) hN) rfl rfl rfl (Nat.le_of_ble_eq_true rfl) (Nat.le_of_ble_eq_true rfl) (Nat.le_refl _) (m_turns01 (d := d + 2) (D := up1 D 6 (D 6 - 1)) hN hR hk hq hLN (hX.keep (MFr.screw I (nI (D 6 - 1)))) ⟨o0, o1, o2, o3, o4, o5, o6, o7, by show D 6 - 1 ≤ 99; omega, o9⟩ (MDr.scr hD) h4 (fun I5 f5 d5 => ?_))
      exact E_ret dX12_does_101 rfl (hQ I5 ((MFr.screw I _).trans f5) d5)
    · rw [show ddS q k LN Y S 0 i w D = D from if_neg (fun z => h6 z.2)] at hQ
      refine E_aload_n dX12_does_0 rfl ?_
      refine E_getR dX12_does_1 f_X12_7 rfl (Nat.lt_of_lt_of_le (by decide) hN) rfl (hR _ _ _ rfl) ?_
      refine E_bp (nI 36) dX12_does_4 (by decide) ?_
      refine E_iload_n dX12_does_6 rfl ?_
      refine E_iadd dX12_does_7 ?_
      refine E.top (nI_add 36 k) ?_
      refine E_ialdN dX12_does_8 rfl (Nat.lt_of_lt_of_le (by decide) hN) (by omega) ?_
      refine E.top (hD.1.2.2.2.2.1) ?_
      refine E_zN_ne (a := D 4) (tgt := 16) dX12_does_9 (by omega) (by decide) (fun cw9 => absurd cw9 (by omega)) (fun cw9 => ?_)
      refine E_ic (nI 1) dX12_does_12 (by decide) ?_
      refine E_goto (tgt := 17) dX12_does_13 (by decide) ?_
      refine E_istore dX12_does_17 (Nat.le_of_ble_eq_true rfl) ?_
      refine E_iload_n dX12_does_19 rfl ?_
      refine E_tin (tgt := 56) dX12_does_20 (by decide) (by decide) rfl (by decide) ?_
      refine E_iload dX12_does_56 rfl ?_
      refine E_zN_eq (a := 1) (tgt := 75) dX12_does_58 (by decide) (by decide) (fun cw58 => absurd cw58 (by omega)) (fun cw58 => ?_)
      refine E_iload_n dX12_does_61 rfl ?_
      refine E_zN_eq (a := 1) (tgt := 76) dX12_does_62 (by decide) (by decide) (fun cw62 => absurd cw62 (by omega)) (fun cw62 => ?_)
      refine E_aload_n dX12_does_65 rfl ?_
      refine E_getR dX12_does_66 f_X12_7 rfl (Nat.lt_of_lt_of_le (by decide) hN) rfl (hR _ _ _ rfl) ?_
      refine E_bp (nI 72) dX12_does_69 (by decide) ?_
      refine E_ialdN dX12_does_71 rfl (Nat.lt_of_lt_of_le (by decide) hN) (by decide) ?_
      refine E.top ((hD.2 rfl).1) ?_
      refine E_zN_ne (a := D 6) (tgt := 76) dX12_does_72 (by omega) (by decide) (fun cw72 => absurd cw72 (by omega)) (fun cw72 => ?_)
      exact E_ret dX12_does_75 rfl (hQ I (MFr.refl _ _ I) hD)
  · rw [show ddS q k LN Y S 0 i w D = D from if_neg (fun z => h4 z.1)] at hQ
    refine E_aload_n dX12_does_0 rfl ?_
    refine E_getR dX12_does_1 f_X12_7 rfl (Nat.lt_of_lt_of_le (by decide) hN) rfl (hR _ _ _ rfl) ?_
    refine E_bp (nI 36) dX12_does_4 (by decide) ?_
    refine E_iload_n dX12_does_6 rfl ?_
    refine E_iadd dX12_does_7 ?_
    refine E.top (nI_add 36 k) ?_
    refine E_ialdN dX12_does_8 rfl (Nat.lt_of_lt_of_le (by decide) hN) (by omega) ?_
    refine E.top (hD.1.2.2.2.2.1) ?_
    refine E_zN_ne (a := D 4) (tgt := 16) dX12_does_9 (by omega) (by decide) (fun cw9 => ?_) (fun cw9 => absurd cw9 (by omega))
    refine E_ic (nI 0) dX12_does_16 (by decide) ?_
    refine E_istore dX12_does_17 (Nat.le_of_ble_eq_true rfl) ?_
    refine E_iload_n dX12_does_19 rfl ?_
    refine E_tin (tgt := 56) dX12_does_20 (by decide) (by decide) rfl (by decide) ?_
    refine E_iload dX12_does_56 rfl ?_
    refine E_zN_eq (a := 0) (tgt := 75) dX12_does_58 (by decide) (by decide) (fun cw58 => ?_) (fun cw58 => absurd cw58 (by omega))
    exact E_ret dX12_does_75 rfl (hQ I (MFr.refl _ _ I) hD)
set_option maxRecDepth 100000 in
set_option maxHeartbeats 2000000 in
theorem m_does11 (hN : 152 ≤ n) (hR : RS R) (hk : k < 12) (hq : LWF q) (hLN : LN ≤ 24) (hX : MCr k LN Y S q I) (hO : okD LN D) (hD : MDr k 1 c0 Y D I) (hF : ∀ j, j < 9 → I 134 j = fcI k LN Y S D i w j) (hQ : ∀ I2 : IM, MFr k 1 I I2 → MDr k 1 c0 Y (ddS q k LN Y S 1 i w D) I2 → Q none n I2 J R) : E g mX12_does (d + 5) 0 0 0 (ent 5 [.ref 114, .int (nI k), .int (nI 1), .int (nI 1)]) [] n I J R Q := by
  have hO0 := hO
  have alm := amQ_le q (fcI k LN Y S D i w) 97 19
  obtain ⟨o0, o1, o2, o3, o4, o5, o6, o7, o8, o9⟩ := hO
  by_cases h4 : D 4 = 0
  · rw [show ddS q k LN Y S 1 i w D = (if (amQ q (fcI k LN Y S D i w) 103 9) ≤ D 2 ∧ (brQ q (fcI k LN Y S D i w)) = 0 then opD D else lsD 2 D) from if_pos h4] at hQ
    refine E_aload_n dX12_does_0 rfl ?_
    refine E_getR dX12_does_1 f_X12_7 rfl (Nat.lt_of_lt_of_le (by decide) hN) rfl (hR _ _ _ rfl) ?_
    refine E_bp (nI 36) dX12_does_4 (by decide) ?_
    refine E_iload_n dX12_does_6 rfl ?_
    refine E_iadd dX12_does_7 ?_
    refine E.top (nI_add 36 k) ?_
    refine E_ialdN dX12_does_8 rfl (Nat.lt_of_lt_of_le (by decide) hN) (by omega) ?_
    refine E.top (hD.1.2.2.2.2.1) ?_
    refine E_zN_ne (a := D 4) (tgt := 16) dX12_does_9 (by omega) (by decide) (fun cw9 => absurd cw9 (by omega)) (fun cw9 => ?_)
    refine E_ic (nI 1) dX12_does_12 (by decide) ?_
    refine E_goto (tgt := 17) dX12_does_13 (by decide) ?_
    refine E_istore dX12_does_17 (Nat.le_of_ble_eq_true rfl) ?_
    refine E_iload_n dX12_does_19 rfl ?_
    refine E_tin (tgt := 102) dX12_does_20 (by decide) (by decide) rfl (by decide) ?_
    refine E_iload dX12_does_102 rfl ?_
    refine E_zN_eq (a := 1) (tgt := 112) dX12_does_104 (by decide) (by decide) (fun cw104 => absurd cw104 (by omega)) (fun cw104 => ?_)
    refine E_aload_n dX12_does_107 rfl ?_
    refine E_iload_n dX12_does_108 rfl ?_
    refine E_callV (As := [_]) (ci := 11) (kc' := 0) (ks' := 0) (kc := 0) (ks := 0) dX12_does_109 ok_X12_pulls w_X12_319 i_X12_pulls s_X12_pulls rfl (by decide) rfl (Nat.lt_of_lt_of_le (by decide) hN) rfl rfl rfl (Nat.le_of_ble_eq_true rfl) (Nat.le_of_ble_eq_true rfl) (Nat.le_refl _) (m_pulls1 (d := d) (i := i) (w := w) hN hR hk hq hLN hX hO0 hD hF (fun I5 f5 d5 => ?_))
    exact E_ret dX12_does_112 rfl (hQ I5 f5 d5)
  · rw [show ddS q k LN Y S 1 i w D = D from if_neg h4] at hQ
    refine E_aload_n dX12_does_0 rfl ?_
    refine E_getR dX12_does_1 f_X12_7 rfl (Nat.lt_of_lt_of_le (by decide) hN) rfl (hR _ _ _ rfl) ?_
    refine E_bp (nI 36) dX12_does_4 (by decide) ?_
    refine E_iload_n dX12_does_6 rfl ?_
    refine E_iadd dX12_does_7 ?_
    refine E.top (nI_add 36 k) ?_
    refine E_ialdN dX12_does_8 rfl (Nat.lt_of_lt_of_le (by decide) hN) (by omega) ?_
    refine E.top (hD.1.2.2.2.2.1) ?_
    refine E_zN_ne (a := D 4) (tgt := 16) dX12_does_9 (by omega) (by decide) (fun cw9 => ?_) (fun cw9 => absurd cw9 (by omega))
    refine E_ic (nI 0) dX12_does_16 (by decide) ?_
    refine E_istore dX12_does_17 (Nat.le_of_ble_eq_true rfl) ?_
    refine E_iload_n dX12_does_19 rfl ?_
    refine E_tin (tgt := 102) dX12_does_20 (by decide) (by decide) rfl (by decide) ?_
    refine E_iload dX12_does_102 rfl ?_
    refine E_zN_eq (a := 0) (tgt := 112) dX12_does_104 (by decide) (by decide) (fun cw104 => ?_) (fun cw104 => absurd cw104 (by omega))
    exact E_ret dX12_does_112 rfl (hQ I (MFr.refl _ _ I) hD)
set_option maxRecDepth 100000 in
set_option maxHeartbeats 2000000 in
theorem m_does21 (hN : 152 ≤ n) (hR : RS R) (hk : k < 12) (hq : LWF q) (hLN : LN ≤ 24) (hX : MCr k LN Y S q I) (hO : okD LN D) (hD : MDr k 1 c0 Y D I) (hF : ∀ j, j < 9 → I 134 j = fcI k LN Y S D i w j) (hQ : ∀ I2 : IM, MFr k 1 I I2 → MDr k 1 c0 Y (ddS q k LN Y S 2 i w D) I2 → Q none n I2 J R) : E g mX12_does (d + 5) 0 0 0 (ent 5 [.ref 114, .int (nI k), .int (nI 2), .int (nI 1)]) [] n I J R Q := by
  have hO0 := hO
  have alm := amQ_le q (fcI k LN Y S D i w) 97 19
  obtain ⟨o0, o1, o2, o3, o4, o5, o6, o7, o8, o9⟩ := hO
  by_cases h4 : D 4 = 0
  · skip
    refine E_aload_n dX12_does_0 rfl ?_
    refine E_getR dX12_does_1 f_X12_7 rfl (Nat.lt_of_lt_of_le (by decide) hN) rfl (hR _ _ _ rfl) ?_
    refine E_bp (nI 36) dX12_does_4 (by decide) ?_
    refine E_iload_n dX12_does_6 rfl ?_
    refine E_iadd dX12_does_7 ?_
    refine E.top (nI_add 36 k) ?_
    refine E_ialdN dX12_does_8 rfl (Nat.lt_of_lt_of_le (by decide) hN) (by omega) ?_
    refine E.top (hD.1.2.2.2.2.1) ?_
    refine E_zN_ne (a := D 4) (tgt := 16) dX12_does_9 (by omega) (by decide) (fun cw9 => absurd cw9 (by omega)) (fun cw9 => ?_)
    refine E_ic (nI 1) dX12_does_12 (by decide) ?_
    refine E_goto (tgt := 17) dX12_does_13 (by decide) ?_
    refine E_istore dX12_does_17 (Nat.le_of_ble_eq_true rfl) ?_
    refine E_iload_n dX12_does_19 rfl ?_
    refine E_tin (tgt := 113) dX12_does_20 (by decide) (by decide) rfl (by decide) ?_
    refine E_aload_n dX12_does_113 rfl ?_
    refine E_iload_n dX12_does_114 rfl ?_
    refine E_callV (As := [_]) (ci := 11) (kc' := 0) (ks' := 0) (kc := 0) (ks := 0) dX12_does_115 ok_X12_shakes w_X12_322 i_X12_shakes s_X12_shakes rfl (by decide) rfl (Nat.lt_of_lt_of_le (by decide) hN) rfl rfl rfl (Nat.le_of_ble_eq_true rfl) (Nat.le_of_ble_eq_true rfl) (Nat.le_refl _) (m_shakes1 (d := d) (i := i) (w := w) hN hR hk hq hLN hX hO0 hD hF (fun I5 f5 d5 => ?_))
    exact E_ret dX12_does_118 rfl (hQ I5 f5 d5)
  · skip
    refine E_aload_n dX12_does_0 rfl ?_
    refine E_getR dX12_does_1 f_X12_7 rfl (Nat.lt_of_lt_of_le (by decide) hN) rfl (hR _ _ _ rfl) ?_
    refine E_bp (nI 36) dX12_does_4 (by decide) ?_
    refine E_iload_n dX12_does_6 rfl ?_
    refine E_iadd dX12_does_7 ?_
    refine E.top (nI_add 36 k) ?_
    refine E_ialdN dX12_does_8 rfl (Nat.lt_of_lt_of_le (by decide) hN) (by omega) ?_
    refine E.top (hD.1.2.2.2.2.1) ?_
    refine E_zN_ne (a := D 4) (tgt := 16) dX12_does_9 (by omega) (by decide) (fun cw9 => ?_) (fun cw9 => absurd cw9 (by omega))
    refine E_ic (nI 0) dX12_does_16 (by decide) ?_
    refine E_istore dX12_does_17 (Nat.le_of_ble_eq_true rfl) ?_
    refine E_iload_n dX12_does_19 rfl ?_
    refine E_tin (tgt := 113) dX12_does_20 (by decide) (by decide) rfl (by decide) ?_
    refine E_aload_n dX12_does_113 rfl ?_
    refine E_iload_n dX12_does_114 rfl ?_
    refine E_callV (As := [_]) (ci := 11) (kc' := 0) (ks' := 0) (kc := 0) (ks := 0) dX12_does_115 ok_X12_shakes w_X12_322 i_X12_shakes s_X12_shakes rfl (by decide) rfl (Nat.lt_of_lt_of_le (by decide) hN) rfl rfl rfl (Nat.le_of_ble_eq_true rfl) (Nat.le_of_ble_eq_true rfl) (Nat.le_refl _) (m_shakes1 (d := d) (i := i) (w := w) hN hR hk hq hLN hX hO0 hD hF (fun I5 f5 d5 => ?_))
    exact E_ret dX12_does_118 rfl (hQ I5 f5 d5)
set_option maxRecDepth 100000 in
set_option maxHeartbeats 2000000 in
theorem m_does31 (hN : 152 ≤ n) (hR : RS R) (hk : k < 12) (hq : LWF q) (hLN : LN ≤ 24) (hX : MCr k LN Y S q I) (hO : okD LN D) (hD : MDr k 1 c0 Y D I) (hF : ∀ j, j < 9 → I 134 j = fcI k LN Y S D i w j) (hQ : ∀ I2 : IM, MFr k 1 I I2 → MDr k 1 c0 Y (ddS q k LN Y S 3 i w D) I2 → Q none n I2 J R) : E g mX12_does (d + 5) 0 0 0 (ent 5 [.ref 114, .int (nI k), .int (nI 3), .int (nI 1)]) [] n I J R Q := by
  have hO0 := hO
  have alm := amQ_le q (fcI k LN Y S D i w) 97 19
  obtain ⟨o0, o1, o2, o3, o4, o5, o6, o7, o8, o9⟩ := hO
  by_cases h4 : D 4 = 0
  · skip
    refine E_aload_n dX12_does_0 rfl ?_
    refine E_getR dX12_does_1 f_X12_7 rfl (Nat.lt_of_lt_of_le (by decide) hN) rfl (hR _ _ _ rfl) ?_
    refine E_bp (nI 36) dX12_does_4 (by decide) ?_
    refine E_iload_n dX12_does_6 rfl ?_
    refine E_iadd dX12_does_7 ?_
    refine E.top (nI_add 36 k) ?_
    refine E_ialdN dX12_does_8 rfl (Nat.lt_of_lt_of_le (by decide) hN) (by omega) ?_
    refine E.top (hD.1.2.2.2.2.1) ?_
    refine E_zN_ne (a := D 4) (tgt := 16) dX12_does_9 (by omega) (by decide) (fun cw9 => absurd cw9 (by omega)) (fun cw9 => ?_)
    refine E_ic (nI 1) dX12_does_12 (by decide) ?_
    refine E_goto (tgt := 17) dX12_does_13 (by decide) ?_
    refine E_istore dX12_does_17 (Nat.le_of_ble_eq_true rfl) ?_
    refine E_iload_n dX12_does_19 rfl ?_
    refine E_tin (tgt := 119) dX12_does_20 (by decide) (by decide) rfl (by decide) ?_
    refine E_aload_n dX12_does_119 rfl ?_
    refine E_getR dX12_does_120 f_X12_7 rfl (Nat.lt_of_lt_of_le (by decide) hN) rfl (hR _ _ _ rfl) ?_
    refine E_ic (nI 0) dX12_does_123 (by decide) ?_
    refine E_iload_n dX12_does_124 rfl ?_
    refine E_iadd dX12_does_125 ?_
    refine E.top (nI_add 0 k) ?_
    refine E.top (congrArg nI (Nat.zero_add k)) ?_
    refine E_ic (nI 0) dX12_does_126 (by decide) ?_
    refine E_aload_n dX12_does_127 rfl ?_
    refine E_getR dX12_does_128 f_X12_7 rfl (Nat.lt_of_lt_of_le (by decide) hN) rfl (hR _ _ _ rfl) ?_
    refine E_ic (nI 0) dX12_does_131 (by decide) ?_
    refine E_iload_n dX12_does_132 rfl ?_
    refine E_iadd dX12_does_133 ?_
    refine E.top (nI_add 0 k) ?_
    refine E.top (congrArg nI (Nat.zero_add k)) ?_
    refine E_ialdN dX12_does_134 rfl (Nat.lt_of_lt_of_le (by decide) hN) (by omega) ?_
    refine E.top (hD.1.1) ?_
    refine E_aload_n dX12_does_135 rfl ?_
    refine E_bp (nI 97) dX12_does_136 (by decide) ?_
    refine E_bp (nI 19) dX12_does_138 (by decide) ?_
    refine E_callV (As := [_, _]) (ci := 11) (kc' := 0) (ks' := 0) (kc := 0) (ks := 0) dX12_does_140 ok_X12_byLaw w_X12_304 i_X12_byLaw s_X12_byLaw rfl (by decide) rfl (Nat.lt_of_lt_of_le (by decide) hN) rfl rfl rfl (Nat.le_of_ble_eq_true rfl) (Nat.le_of_ble_eq_true rfl) (Nat.le_refl _) (m_byLaw (d := d + 2) (q := q) (fa := (fcI k LN Y S D i w)) (w := 97) (mo := 19) hN hR hq hX.2.2 hF (by decide) (by decide) (by decide) (fun I3 f_I3 => ?_))
    refine E_isub dX12_does_143 ?_
    refine E_callS (As := [_, _]) (kc' := 0) (ks' := 0) (kc := 0) (ks := 0) dX12_does_144 ok_X12_max w_X12_298 st_X12_max rfl rfl rfl (Nat.le_of_ble_eq_true rfl) (Nat.le_of_ble_eq_true rfl) (Nat.le_refl _) (m_maxI ?_)
    refine E.top (mx_n (a := D 0) (b := amQ q (fcI k LN Y S D i w) 97 19) (by omega) (by omega)) ?_
    refine E_iastN dX12_does_147 rfl (Nat.lt_of_lt_of_le (by decide) hN) (by omega) ?_
    exact E_ret dX12_does_148 rfl (hQ _ ((MFr.row (k := k) (wr := 1) f_I3 (by decide)).trans ((hD.row (f_I3 114 (by decide)) (f_I3 115 (by decide))).st hk (j := 0) (v := D 0 - amQ q (fcI k LN Y S D i w) 97 19) (by omega)).2) ((hD.row (f_I3 114 (by decide)) (f_I3 115 (by decide))).st hk (j := 0) (v := D 0 - amQ q (fcI k LN Y S D i w) 97 19) (by omega)).1)
  · skip
    refine E_aload_n dX12_does_0 rfl ?_
    refine E_getR dX12_does_1 f_X12_7 rfl (Nat.lt_of_lt_of_le (by decide) hN) rfl (hR _ _ _ rfl) ?_
    refine E_bp (nI 36) dX12_does_4 (by decide) ?_
    refine E_iload_n dX12_does_6 rfl ?_
    refine E_iadd dX12_does_7 ?_
    refine E.top (nI_add 36 k) ?_
    refine E_ialdN dX12_does_8 rfl (Nat.lt_of_lt_of_le (by decide) hN) (by omega) ?_
    refine E.top (hD.1.2.2.2.2.1) ?_
    refine E_zN_ne (a := D 4) (tgt := 16) dX12_does_9 (by omega) (by decide) (fun cw9 => ?_) (fun cw9 => absurd cw9 (by omega))
    refine E_ic (nI 0) dX12_does_16 (by decide) ?_
    refine E_istore dX12_does_17 (Nat.le_of_ble_eq_true rfl) ?_
    refine E_iload_n dX12_does_19 rfl ?_
    refine E_tin (tgt := 119) dX12_does_20 (by decide) (by decide) rfl (by decide) ?_
    refine E_aload_n dX12_does_119 rfl ?_
    refine E_getR dX12_does_120 f_X12_7 rfl (Nat.lt_of_lt_of_le (by decide) hN) rfl (hR _ _ _ rfl) ?_
    refine E_ic (nI 0) dX12_does_123 (by decide) ?_
    refine E_iload_n dX12_does_124 rfl ?_
    refine E_iadd dX12_does_125 ?_
    refine E.top (nI_add 0 k) ?_
    refine E.top (congrArg nI (Nat.zero_add k)) ?_
    refine E_ic (nI 0) dX12_does_126 (by decide) ?_
    refine E_aload_n dX12_does_127 rfl ?_
    refine E_getR dX12_does_128 f_X12_7 rfl (Nat.lt_of_lt_of_le (by decide) hN) rfl (hR _ _ _ rfl) ?_
    refine E_ic (nI 0) dX12_does_131 (by decide) ?_
    refine E_iload_n dX12_does_132 rfl ?_
    refine E_iadd dX12_does_133 ?_
    refine E.top (nI_add 0 k) ?_
    refine E.top (congrArg nI (Nat.zero_add k)) ?_
    refine E_ialdN dX12_does_134 rfl (Nat.lt_of_lt_of_le (by decide) hN) (by omega) ?_
    refine E.top (hD.1.1) ?_
    refine E_aload_n dX12_does_135 rfl ?_
    refine E_bp (nI 97) dX12_does_136 (by decide) ?_
    refine E_bp (nI 19) dX12_does_138 (by decide) ?_
    refine E_callV (As := [_, _]) (ci := 11) (kc' := 0) (ks' := 0) (kc := 0) (ks := 0) dX12_does_140 ok_X12_byLaw w_X12_304 i_X12_byLaw s_X12_byLaw rfl (by decide) rfl (Nat.lt_of_lt_of_le (by decide) hN) rfl rfl rfl (Nat.le_of_ble_eq_true rfl) (Nat.le_of_ble_eq_true rfl) (Nat.le_refl _) (m_byLaw (d := d + 2) (q := q) (fa := (fcI k LN Y S D i w)) (w := 97) (mo := 19) hN hR hq hX.2.2 hF (by decide) (by decide) (by decide) (fun I3 f_I3 => ?_))
    refine E_isub dX12_does_143 ?_
    refine E_callS (As := [_, _]) (kc' := 0) (ks' := 0) (kc := 0) (ks := 0) dX12_does_144 ok_X12_max w_X12_298 st_X12_max rfl rfl rfl (Nat.le_of_ble_eq_true rfl) (Nat.le_of_ble_eq_true rfl) (Nat.le_refl _) (m_maxI ?_)
    refine E.top (mx_n (a := D 0) (b := amQ q (fcI k LN Y S D i w) 97 19) (by omega) (by omega)) ?_
    refine E_iastN dX12_does_147 rfl (Nat.lt_of_lt_of_le (by decide) hN) (by omega) ?_
    exact E_ret dX12_does_148 rfl (hQ _ ((MFr.row (k := k) (wr := 1) f_I3 (by decide)).trans ((hD.row (f_I3 114 (by decide)) (f_I3 115 (by decide))).st hk (j := 0) (v := D 0 - amQ q (fcI k LN Y S D i w) 97 19) (by omega)).2) ((hD.row (f_I3 114 (by decide)) (f_I3 115 (by decide))).st hk (j := 0) (v := D 0 - amQ q (fcI k LN Y S D i w) 97 19) (by omega)).1)
set_option maxRecDepth 100000 in
set_option maxHeartbeats 2000000 in
theorem m_does41 (hN : 152 ≤ n) (hR : RS R) (hk : k < 12) (hq : LWF q) (hLN : LN ≤ 24) (hX : MCr k LN Y S q I) (hO : okD LN D) (hD : MDr k 1 c0 Y D I) (hF : ∀ j, j < 9 → I 134 j = fcI k LN Y S D i w j) (hQ : ∀ I2 : IM, MFr k 1 I I2 → MDr k 1 c0 Y (ddS q k LN Y S 4 i w D) I2 → Q none n I2 J R) : E g mX12_does (d + 5) 0 0 0 (ent 5 [.ref 114, .int (nI k), .int (nI 4), .int (nI 1)]) [] n I J R Q := by
  have hO0 := hO
  have alm := amQ_le q (fcI k LN Y S D i w) 97 19
  obtain ⟨o0, o1, o2, o3, o4, o5, o6, o7, o8, o9⟩ := hO
  by_cases h4 : D 4 = 0
  · rw [show ddS q k LN Y S 4 i w D = D from if_pos h4] at hQ
    refine E_aload_n dX12_does_0 rfl ?_
    refine E_getR dX12_does_1 f_X12_7 rfl (Nat.lt_of_lt_of_le (by decide) hN) rfl (hR _ _ _ rfl) ?_
    refine E_bp (nI 36) dX12_does_4 (by decide) ?_
    refine E_iload_n dX12_does_6 rfl ?_
    refine E_iadd dX12_does_7 ?_
    refine E.top (nI_add 36 k) ?_
    refine E_ialdN dX12_does_8 rfl (Nat.lt_of_lt_of_le (by decide) hN) (by omega) ?_
    refine E.top (hD.1.2.2.2.2.1) ?_
    refine E_zN_ne (a := D 4) (tgt := 16) dX12_does_9 (by omega) (by decide) (fun cw9 => absurd cw9 (by omega)) (fun cw9 => ?_)
    refine E_ic (nI 1) dX12_does_12 (by decide) ?_
    refine E_goto (tgt := 17) dX12_does_13 (by decide) ?_
    refine E_istore dX12_does_17 (Nat.le_of_ble_eq_true rfl) ?_
    refine E_iload_n dX12_does_19 rfl ?_
    refine E_tin (tgt := 149) dX12_does_20 (by decide) (by decide) rfl (by decide) ?_
    refine E_iload dX12_does_149 rfl ?_
    refine E_zN_ne (a := 1) (tgt := 159) dX12_does_151 (by decide) (by decide) (fun cw151 => ?_) (fun cw151 => absurd cw151 (by omega))
    exact E_ret dX12_does_159 rfl (hQ I (MFr.refl _ _ I) hD)
  · rw [show ddS q k LN Y S 4 i w D = up1 (cmD LN (amQ q (fcI k LN Y S D i w) 100 9) D) 0 (D 0 - min (amQ q (fcI k LN Y S D i w) 100 9) (LN - D 3)) from if_neg h4] at hQ
    refine E_aload_n dX12_does_0 rfl ?_
    refine E_getR dX12_does_1 f_X12_7 rfl (Nat.lt_of_lt_of_le (by decide) hN) rfl (hR _ _ _ rfl) ?_
    refine E_bp (nI 36) dX12_does_4 (by decide) ?_
    refine E_iload_n dX12_does_6 rfl ?_
    refine E_iadd dX12_does_7 ?_
    refine E.top (nI_add 36 k) ?_
    refine E_ialdN dX12_does_8 rfl (Nat.lt_of_lt_of_le (by decide) hN) (by omega) ?_
    refine E.top (hD.1.2.2.2.2.1) ?_
    refine E_zN_ne (a := D 4) (tgt := 16) dX12_does_9 (by omega) (by decide) (fun cw9 => ?_) (fun cw9 => absurd cw9 (by omega))
    refine E_ic (nI 0) dX12_does_16 (by decide) ?_
    refine E_istore dX12_does_17 (Nat.le_of_ble_eq_true rfl) ?_
    refine E_iload_n dX12_does_19 rfl ?_
    refine E_tin (tgt := 149) dX12_does_20 (by decide) (by decide) rfl (by decide) ?_
    refine E_iload dX12_does_149 rfl ?_
    refine E_zN_ne (a := 0) (tgt := 159) dX12_does_151 (by decide) (by decide) (fun cw151 => absurd cw151 (by omega)) (fun cw151 => ?_)
    refine E_aload_n dX12_does_154 rfl ?_
    refine E_iload_n dX12_does_155 rfl ?_
    refine E_callV (As := [_]) (ci := 11) (kc' := 0) (ks' := 0) (kc := 0) (ks := 0) dX12_does_156 ok_X12_pours w_X12_325 i_X12_pours s_X12_pours rfl (by decide) rfl (Nat.lt_of_lt_of_le (by decide) hN) rfl rfl rfl (Nat.le_of_ble_eq_true rfl) (Nat.le_of_ble_eq_true rfl) (Nat.le_refl _) (m_pours1 (d := d) (i := i) (w := w) hN hR hk hq hLN hX hO0 hD hF (fun I5 f5 d5 => ?_))
    exact E_ret dX12_does_159 rfl (hQ I5 f5 d5)
set_option maxRecDepth 100000 in
set_option maxHeartbeats 2000000 in
theorem m_does51 (hN : 152 ≤ n) (hR : RS R) (hk : k < 12) (hq : LWF q) (hLN : LN ≤ 24) (hX : MCr k LN Y S q I) (hO : okD LN D) (hD : MDr k 1 c0 Y D I) (hF : ∀ j, j < 9 → I 134 j = fcI k LN Y S D i w j) (hQ : ∀ I2 : IM, MFr k 1 I I2 → MDr k 1 c0 Y (ddS q k LN Y S 5 i w D) I2 → Q none n I2 J R) : E g mX12_does (d + 5) 0 0 0 (ent 5 [.ref 114, .int (nI k), .int (nI 5), .int (nI 1)]) [] n I J R Q := by
  have hO0 := hO
  have alm := amQ_le q (fcI k LN Y S D i w) 97 19
  obtain ⟨o0, o1, o2, o3, o4, o5, o6, o7, o8, o9⟩ := hO
  by_cases h4 : D 4 = 0
  · skip
    refine E_aload_n dX12_does_0 rfl ?_
    refine E_getR dX12_does_1 f_X12_7 rfl (Nat.lt_of_lt_of_le (by decide) hN) rfl (hR _ _ _ rfl) ?_
    refine E_bp (nI 36) dX12_does_4 (by decide) ?_
    refine E_iload_n dX12_does_6 rfl ?_
    refine E_iadd dX12_does_7 ?_
    refine E.top (nI_add 36 k) ?_
    refine E_ialdN dX12_does_8 rfl (Nat.lt_of_lt_of_le (by decide) hN) (by omega) ?_
    refine E.top (hD.1.2.2.2.2.1) ?_
    refine E_zN_ne (a := D 4) (tgt := 16) dX12_does_9 (by omega) (by decide) (fun cw9 => absurd cw9 (by omega)) (fun cw9 => ?_)
    refine E_ic (nI 1) dX12_does_12 (by decide) ?_
    refine E_goto (tgt := 17) dX12_does_13 (by decide) ?_
    refine E_istore dX12_does_17 (Nat.le_of_ble_eq_true rfl) ?_
    refine E_iload_n dX12_does_19 rfl ?_
    refine E_tout (tgt := 160) dX12_does_20 (Or.inr (by decide)) (by decide) ?_
    refine E_aload_n dX12_does_160 rfl ?_
    refine E_getR dX12_does_161 f_X12_7 rfl (Nat.lt_of_lt_of_le (by decide) hN) rfl (hR _ _ _ rfl) ?_
    refine E_bp (nI 36) dX12_does_164 (by decide) ?_
    refine E_iload_n dX12_does_166 rfl ?_
    refine E_iadd dX12_does_167 ?_
    refine E.top (nI_add 36 k) ?_
    refine E_ic (nI 0) dX12_does_168 (by decide) ?_
    refine E_iastN dX12_does_169 rfl (Nat.lt_of_lt_of_le (by decide) hN) (by omega) ?_
    refine E_aload_n dX12_does_170 rfl ?_
    refine E_getR dX12_does_171 f_X12_7 rfl (Nat.lt_of_lt_of_le (by decide) hN) rfl (hR _ _ _ rfl) ?_
    refine E_bp (nI 12) dX12_does_174 (by decide) ?_
    refine E_iload_n dX12_does_176 rfl ?_
    refine E_iadd dX12_does_177 ?_
    refine E.top (nI_add 12 k) ?_
    refine E_bp (nI 9) dX12_does_178 (by decide) ?_
    refine E_iastN dX12_does_180 rfl (Nat.lt_of_lt_of_le (by decide) hN) (by omega) ?_
    refine E_aload_n dX12_does_181 rfl ?_
    refine E_getR dX12_does_182 f_X12_7 rfl (Nat.lt_of_lt_of_le (by decide) hN) rfl (hR _ _ _ rfl) ?_
    refine E_bp (nI 24) dX12_does_185 (by decide) ?_
    refine E_iload_n dX12_does_187 rfl ?_
    refine E_iadd dX12_does_188 ?_
    refine E.top (nI_add 24 k) ?_
    refine E_ic (nI 0) dX12_does_189 (by decide) ?_
    refine E_iastN dX12_does_190 rfl (Nat.lt_of_lt_of_le (by decide) hN) (by omega) ?_
    exact E_ret dX12_does_191 rfl (hQ _ ((hD.st hk (j := 4) (v := 0) (by omega)).2.trans (((hD.st hk (j := 4) (v := 0) (by omega)).1.st hk (j := 1) (v := 9) (by omega)).2.trans (((hD.st hk (j := 4) (v := 0) (by omega)).1.st hk (j := 1) (v := 9) (by omega)).1.st hk (j := 2) (v := 0) (by omega)).2)) (((hD.st hk (j := 4) (v := 0) (by omega)).1.st hk (j := 1) (v := 9) (by omega)).1.st hk (j := 2) (v := 0) (by omega)).1)
  · skip
    refine E_aload_n dX12_does_0 rfl ?_
    refine E_getR dX12_does_1 f_X12_7 rfl (Nat.lt_of_lt_of_le (by decide) hN) rfl (hR _ _ _ rfl) ?_
    refine E_bp (nI 36) dX12_does_4 (by decide) ?_
    refine E_iload_n dX12_does_6 rfl ?_
    refine E_iadd dX12_does_7 ?_
    refine E.top (nI_add 36 k) ?_
    refine E_ialdN dX12_does_8 rfl (Nat.lt_of_lt_of_le (by decide) hN) (by omega) ?_
    refine E.top (hD.1.2.2.2.2.1) ?_
    refine E_zN_ne (a := D 4) (tgt := 16) dX12_does_9 (by omega) (by decide) (fun cw9 => ?_) (fun cw9 => absurd cw9 (by omega))
    refine E_ic (nI 0) dX12_does_16 (by decide) ?_
    refine E_istore dX12_does_17 (Nat.le_of_ble_eq_true rfl) ?_
    refine E_iload_n dX12_does_19 rfl ?_
    refine E_tout (tgt := 160) dX12_does_20 (Or.inr (by decide)) (by decide) ?_
    refine E_aload_n dX12_does_160 rfl ?_
    refine E_getR dX12_does_161 f_X12_7 rfl (Nat.lt_of_lt_of_le (by decide) hN) rfl (hR _ _ _ rfl) ?_
    refine E_bp (nI 36) dX12_does_164 (by decide) ?_
    refine E_iload_n dX12_does_166 rfl ?_
    refine E_iadd dX12_does_167 ?_
    refine E.top (nI_add 36 k) ?_
    refine E_ic (nI 0) dX12_does_168 (by decide) ?_
    refine E_iastN dX12_does_169 rfl (Nat.lt_of_lt_of_le (by decide) hN) (by omega) ?_
    refine E_aload_n dX12_does_170 rfl ?_
    refine E_getR dX12_does_171 f_X12_7 rfl (Nat.lt_of_lt_of_le (by decide) hN) rfl (hR _ _ _ rfl) ?_
    refine E_bp (nI 12) dX12_does_174 (by decide) ?_
    refine E_iload_n dX12_does_176 rfl ?_
    refine E_iadd dX12_does_177 ?_
    refine E.top (nI_add 12 k) ?_
    refine E_bp (nI 9) dX12_does_178 (by decide) ?_
    refine E_iastN dX12_does_180 rfl (Nat.lt_of_lt_of_le (by decide) hN) (by omega) ?_
    refine E_aload_n dX12_does_181 rfl ?_
    refine E_getR dX12_does_182 f_X12_7 rfl (Nat.lt_of_lt_of_le (by decide) hN) rfl (hR _ _ _ rfl) ?_
    refine E_bp (nI 24) dX12_does_185 (by decide) ?_
    refine E_iload_n dX12_does_187 rfl ?_
    refine E_iadd dX12_does_188 ?_
    refine E.top (nI_add 24 k) ?_
    refine E_ic (nI 0) dX12_does_189 (by decide) ?_
    refine E_iastN dX12_does_190 rfl (Nat.lt_of_lt_of_le (by decide) hN) (by omega) ?_
    exact E_ret dX12_does_191 rfl (hQ _ ((hD.st hk (j := 4) (v := 0) (by omega)).2.trans (((hD.st hk (j := 4) (v := 0) (by omega)).1.st hk (j := 1) (v := 9) (by omega)).2.trans (((hD.st hk (j := 4) (v := 0) (by omega)).1.st hk (j := 1) (v := 9) (by omega)).1.st hk (j := 2) (v := 0) (by omega)).2)) (((hD.st hk (j := 4) (v := 0) (by omega)).1.st hk (j := 1) (v := 9) (by omega)).1.st hk (j := 2) (v := 0) (by omega)).1)
set_option maxRecDepth 100000 in
set_option maxHeartbeats 2000000 in
theorem m_doesA1 {dd : Nat} (hdd : dd < 6) (hN : 152 ≤ n) (hR : RS R) (hk : k < 12) (hq : LWF q) (hLN : LN ≤ 24) (hX : MCr k LN Y S q I) (hO : okD LN D) (hD : MDr k 1 c0 Y D I) (hF : ∀ j, j < 9 → I 134 j = fcI k LN Y S D i w j) (hQ : ∀ I2 : IM, MFr k 1 I I2 → MDr k 1 c0 Y (ddS q k LN Y S dd i w D) I2 → Q none n I2 J R) : E g mX12_does (d + 5) 0 0 0 (ent 5 [.ref 114, .int (nI k), .int (nI dd), .int (nI 1)]) [] n I J R Q := by
  have cd : dd = 0 ∨ dd = 1 ∨ dd = 2 ∨ dd = 3 ∨ dd = 4 ∨ dd = 5 := by omega
  rcases cd with rfl | rfl | rfl | rfl | rfl | rfl
  · exact m_does01 hN hR hk hq hLN hX hO hD hF hQ
  · exact m_does11 hN hR hk hq hLN hX hO hD hF hQ
  · exact m_does21 hN hR hk hq hLN hX hO hD hF hQ
  · exact m_does31 hN hR hk hq hLN hX hO hD hF hQ
  · exact m_does41 hN hR hk hq hLN hX hO hD hF hQ
  · exact m_does51 hN hR hk hq hLN hX hO hD hF hQ
set_option maxRecDepth 100000 in
set_option maxHeartbeats 2000000 in
theorem m_corkLess0 (hN : 152 ≤ n) (hR : RS R) (hk : k < 12) (hq : LWF q) (hLN : LN ≤ 24) (hX : MCr k LN Y S q I) (hO : okD LN D) (hD : MDr k 0 c0 Y D I) {b : Nat} (hb : b ≤ 2) (hQ : ∀ I2 : IM, MFr k 0 I I2 → MDr k 0 c0 Y (lsD b D) I2 → Q none n I2 J R) : E g mX12_corkLess (d + 1) 0 0 0 (ent 3 [.ref 114, .int (nI k), .int (nI b)]) [] n I J R Q := by
  obtain ⟨o0, o1, o2, o3, o4, o5, o6, o7, o8, o9⟩ := hO
  by_cases hz : D 1 - b = 0
  · rw [show lsD b D = up1 (up1 D 1 (D 1 - b)) 5 1 from (if_pos hz).trans (by rw [hz])] at hQ
    refine E_aload_n dX12_corkLess_0 rfl ?_
    refine E_getR dX12_corkLess_1 f_X12_7 rfl (Nat.lt_of_lt_of_le (by decide) hN) rfl (hR _ _ _ rfl) ?_
    refine E_bp (nI 12) dX12_corkLess_4 (by decide) ?_
    refine E_iload_n dX12_corkLess_6 rfl ?_
    refine E_iadd dX12_corkLess_7 ?_
    refine E.top (nI_add 12 k) ?_
    refine E_ic (nI 0) dX12_corkLess_8 (by decide) ?_
    refine E_aload_n dX12_corkLess_9 rfl ?_
    refine E_getR dX12_corkLess_10 f_X12_7 rfl (Nat.lt_of_lt_of_le (by decide) hN) rfl (hR _ _ _ rfl) ?_
    refine E_bp (nI 12) dX12_corkLess_13 (by decide) ?_
    refine E_iload_n dX12_corkLess_15 rfl ?_
    refine E_iadd dX12_corkLess_16 ?_
    refine E.top (nI_add 12 k) ?_
    refine E_ialdN dX12_corkLess_17 rfl (Nat.lt_of_lt_of_le (by decide) hN) (by omega) ?_
    refine E.top (hD.1.2.1) ?_
    refine E_iload_n dX12_corkLess_18 rfl ?_
    refine E_isub dX12_corkLess_19 ?_
    refine E_callS (As := [_, _]) (kc' := 0) (ks' := 0) (kc := 0) (ks := 0) dX12_corkLess_20 ok_X12_max w_X12_298 st_X12_max rfl rfl rfl (Nat.le_of_ble_eq_true rfl) (Nat.le_of_ble_eq_true rfl) (Nat.le_refl _) (m_maxI ?_)
    refine E.top (mx_n (a := D 1) (b := b) (by omega) (by omega)) ?_
    refine E_iastN dX12_corkLess_23 rfl (Nat.lt_of_lt_of_le (by decide) hN) (by omega) ?_
    refine E_aload_n dX12_corkLess_24 rfl ?_
    refine E_getR dX12_corkLess_25 f_X12_7 rfl (Nat.lt_of_lt_of_le (by decide) hN) rfl (hR _ _ _ rfl) ?_
    refine E_bp (nI 12) dX12_corkLess_28 (by decide) ?_
    refine E_iload_n dX12_corkLess_30 rfl ?_
    refine E_iadd dX12_corkLess_31 ?_
    refine E.top (nI_add 12 k) ?_
    refine E_ialdN dX12_corkLess_32 rfl (Nat.lt_of_lt_of_le (by decide) hN) (by omega) ?_
    refine E.top (up2_s _ _ _ _) ?_
    refine E_zN_ne (a := D 1 - b) (tgt := 46) dX12_corkLess_33 (by omega) (by decide) (fun cw33 => absurd cw33 (by omega)) (fun cw33 => ?_)
    refine E_aload_n dX12_corkLess_36 rfl ?_
    refine E_getR dX12_corkLess_37 f_X12_7 rfl (Nat.lt_of_lt_of_le (by decide) hN) rfl (hR _ _ _ rfl) ?_
    refine E_bp (nI 48) dX12_corkLess_40 (by decide) ?_
    refine E_iload_n dX12_corkLess_42 rfl ?_
    refine E_iadd dX12_corkLess_43 ?_
    refine E.top (nI_add 48 k) ?_
    refine E_ic (nI 1) dX12_corkLess_44 (by decide) ?_
    refine E_iastN dX12_corkLess_45 rfl (Nat.lt_of_lt_of_le (by decide) hN) (by omega) ?_
    exact E_ret dX12_corkLess_46 rfl (hQ _ ((hD.st hk (j := 1) (v := D 1 - b) (Or.inr (Or.inl ⟨rfl, rfl⟩))).2.trans ((hD.st hk (j := 1) (v := D 1 - b) (Or.inr (Or.inl ⟨rfl, rfl⟩))).1.st hk (j := 5) (v := 1) (by omega)).2) ((hD.st hk (j := 1) (v := D 1 - b) (Or.inr (Or.inl ⟨rfl, rfl⟩))).1.st hk (j := 5) (v := 1) (by omega)).1)
  · rw [show lsD b D = up1 D 1 (D 1 - b) from if_neg hz] at hQ
    refine E_aload_n dX12_corkLess_0 rfl ?_
    refine E_getR dX12_corkLess_1 f_X12_7 rfl (Nat.lt_of_lt_of_le (by decide) hN) rfl (hR _ _ _ rfl) ?_
    refine E_bp (nI 12) dX12_corkLess_4 (by decide) ?_
    refine E_iload_n dX12_corkLess_6 rfl ?_
    refine E_iadd dX12_corkLess_7 ?_
    refine E.top (nI_add 12 k) ?_
    refine E_ic (nI 0) dX12_corkLess_8 (by decide) ?_
    refine E_aload_n dX12_corkLess_9 rfl ?_
    refine E_getR dX12_corkLess_10 f_X12_7 rfl (Nat.lt_of_lt_of_le (by decide) hN) rfl (hR _ _ _ rfl) ?_
    refine E_bp (nI 12) dX12_corkLess_13 (by decide) ?_
    refine E_iload_n dX12_corkLess_15 rfl ?_
    refine E_iadd dX12_corkLess_16 ?_
    refine E.top (nI_add 12 k) ?_
    refine E_ialdN dX12_corkLess_17 rfl (Nat.lt_of_lt_of_le (by decide) hN) (by omega) ?_
    refine E.top (hD.1.2.1) ?_
    refine E_iload_n dX12_corkLess_18 rfl ?_
    refine E_isub dX12_corkLess_19 ?_
    refine E_callS (As := [_, _]) (kc' := 0) (ks' := 0) (kc := 0) (ks := 0) dX12_corkLess_20 ok_X12_max w_X12_298 st_X12_max rfl rfl rfl (Nat.le_of_ble_eq_true rfl) (Nat.le_of_ble_eq_true rfl) (Nat.le_refl _) (m_maxI ?_)
    refine E.top (mx_n (a := D 1) (b := b) (by omega) (by omega)) ?_
    refine E_iastN dX12_corkLess_23 rfl (Nat.lt_of_lt_of_le (by decide) hN) (by omega) ?_
    refine E_aload_n dX12_corkLess_24 rfl ?_
    refine E_getR dX12_corkLess_25 f_X12_7 rfl (Nat.lt_of_lt_of_le (by decide) hN) rfl (hR _ _ _ rfl) ?_
    refine E_bp (nI 12) dX12_corkLess_28 (by decide) ?_
    refine E_iload_n dX12_corkLess_30 rfl ?_
    refine E_iadd dX12_corkLess_31 ?_
    refine E.top (nI_add 12 k) ?_
    refine E_ialdN dX12_corkLess_32 rfl (Nat.lt_of_lt_of_le (by decide) hN) (by omega) ?_
    refine E.top (up2_s _ _ _ _) ?_
    refine E_zN_ne (a := D 1 - b) (tgt := 46) dX12_corkLess_33 (by omega) (by decide) (fun cw33 => ?_) (fun cw33 => absurd cw33 (by omega))
    exact E_ret dX12_corkLess_46 rfl (hQ _ (hD.st hk (j := 1) (v := D 1 - b) (Or.inr (Or.inl ⟨rfl, rfl⟩))).2 (hD.st hk (j := 1) (v := D 1 - b) (Or.inr (Or.inl ⟨rfl, rfl⟩))).1)
set_option maxRecDepth 100000 in
set_option maxHeartbeats 2000000 in
theorem m_turns00 (hN : 152 ≤ n) (hR : RS R) (hk : k < 12) (hq : LWF q) (hLN : LN ≤ 24) (hX : MCr k LN Y S q I) (hO : okD LN D) (hD : MDr k 0 c0 Y D I) (h4 : D 4 = 0) (hQ : ∀ I2 : IM, MFr k 0 I I2 → MDr k 0 c0 Y (if 5 < min 9 (D 2 + 1) then lsD 1 (up1 D 2 (min 9 (D 2 + 1))) else up1 D 2 (min 9 (D 2 + 1))) I2 → Q none n I2 J R) : E g mX12_turns0 (d + 2) 0 0 0 (ent 2 [.ref 114, .int (nI k)]) [] n I J R Q := by
  obtain ⟨o0, o1, o2, o3, o4, o5, o6, o7, o8, o9⟩ := hO
  by_cases hz : 5 < min 9 (D 2 + 1)
  · rw [if_pos hz] at hQ
    refine E_aload_n dX12_turns0_0 rfl ?_
    refine E_getR dX12_turns0_1 f_X12_7 rfl (Nat.lt_of_lt_of_le (by decide) hN) rfl (hR _ _ _ rfl) ?_
    refine E_bp (nI 24) dX12_turns0_4 (by decide) ?_
    refine E_iload_n dX12_turns0_6 rfl ?_
    refine E_iadd dX12_turns0_7 ?_
    refine E.top (nI_add 24 k) ?_
    refine E_bp (nI 9) dX12_turns0_8 (by decide) ?_
    refine E_aload_n dX12_turns0_10 rfl ?_
    refine E_getR dX12_turns0_11 f_X12_7 rfl (Nat.lt_of_lt_of_le (by decide) hN) rfl (hR _ _ _ rfl) ?_
    refine E_bp (nI 24) dX12_turns0_14 (by decide) ?_
    refine E_iload_n dX12_turns0_16 rfl ?_
    refine E_iadd dX12_turns0_17 ?_
    refine E.top (nI_add 24 k) ?_
    refine E_ialdN dX12_turns0_18 rfl (Nat.lt_of_lt_of_le (by decide) hN) (by omega) ?_
    refine E.top (hD.1.2.2.1) ?_
    refine E_ic (nI 1) dX12_turns0_19 (by decide) ?_
    refine E_iadd dX12_turns0_20 ?_
    refine E.top (nI_add (D 2) 1) ?_
    refine E_callS (As := [_, _]) (kc' := 0) (ks' := 0) (kc := 0) (ks := 0) dX12_turns0_21 ok_X12_min w_X12_292 st_X12_min rfl rfl rfl (Nat.le_of_ble_eq_true rfl) (Nat.le_of_ble_eq_true rfl) (Nat.le_refl _) (m_min ?_)
    refine E.top (mn_n (by decide) (by omega)) ?_
    refine E_iastN dX12_turns0_24 rfl (Nat.lt_of_lt_of_le (by decide) hN) (by omega) ?_
    refine E_aload_n dX12_turns0_25 rfl ?_
    refine E_getR dX12_turns0_26 f_X12_7 rfl (Nat.lt_of_lt_of_le (by decide) hN) rfl (hR _ _ _ rfl) ?_
    refine E_bp (nI 24) dX12_turns0_29 (by decide) ?_
    refine E_iload_n dX12_turns0_31 rfl ?_
    refine E_iadd dX12_turns0_32 ?_
    refine E.top (nI_add 24 k) ?_
    refine E_ialdN dX12_turns0_33 rfl (Nat.lt_of_lt_of_le (by decide) hN) (by omega) ?_
    refine E.top (up2_s _ _ _ _) ?_
    refine E_ic (nI 5) dX12_turns0_34 (by decide) ?_
    refine E_cN_le (a := min 9 (D 2 + 1)) (b := 5) (tgt := 44) dX12_turns0_35 (by omega) (by decide) (by decide) (fun cw35 => absurd cw35 (by omega)) (fun cw35 => ?_)
    refine E_aload_n dX12_turns0_38 rfl ?_
    refine E_iload_n dX12_turns0_39 rfl ?_
    refine E_ic (nI 1) dX12_turns0_40 (by decide) ?_
    refine E_callV (As := [_, _]) (ci := 11) (kc' := 0) (ks' := 0) (kc := 0) (ks := 0) dX12_turns0_41 ok_X12_corkLess w_X12_301 i_X12_corkLess s_X12_corkLess rfl (by decide) rfl (Nat.lt_of_lt_of_le (by decide) hN) rfl rfl rfl (Nat.le_of_ble_eq_true rfl) (Nat.le_of_ble_eq_true rfl) (Nat.le_refl _) (m_corkLess0 (d := d) (b := 1) (D := up1 D 2 (min 9 (D 2 + 1))) hN hR hk hq hLN (hX.keep (hD.st hk (j := 2) (v := min 9 (D 2 + 1)) (by omega)).2) ⟨o0, o1, by show min 9 (D 2 + 1) ≤ 9; omega, o3, o4, o5, fun z => by have : D 4 = 1 := z; omega, o7, o8, o9⟩ (hD.st hk (j := 2) (v := min 9 (D 2 + 1)) (by omega)).1 (by decide) (fun I3 f3 d3 => ?_))
    exact E_ret dX12_turns0_44 rfl (hQ I3 ((hD.st hk (j := 2) (v := min 9 (D 2 + 1)) (by omega)).2.trans f3) d3)
  · rw [if_neg hz] at hQ
    refine E_aload_n dX12_turns0_0 rfl ?_
    refine E_getR dX12_turns0_1 f_X12_7 rfl (Nat.lt_of_lt_of_le (by decide) hN) rfl (hR _ _ _ rfl) ?_
    refine E_bp (nI 24) dX12_turns0_4 (by decide) ?_
    refine E_iload_n dX12_turns0_6 rfl ?_
    refine E_iadd dX12_turns0_7 ?_
    refine E.top (nI_add 24 k) ?_
    refine E_bp (nI 9) dX12_turns0_8 (by decide) ?_
    refine E_aload_n dX12_turns0_10 rfl ?_
    refine E_getR dX12_turns0_11 f_X12_7 rfl (Nat.lt_of_lt_of_le (by decide) hN) rfl (hR _ _ _ rfl) ?_
    refine E_bp (nI 24) dX12_turns0_14 (by decide) ?_
    refine E_iload_n dX12_turns0_16 rfl ?_
    refine E_iadd dX12_turns0_17 ?_
    refine E.top (nI_add 24 k) ?_
    refine E_ialdN dX12_turns0_18 rfl (Nat.lt_of_lt_of_le (by decide) hN) (by omega) ?_
    refine E.top (hD.1.2.2.1) ?_
    refine E_ic (nI 1) dX12_turns0_19 (by decide) ?_
    refine E_iadd dX12_turns0_20 ?_
    refine E.top (nI_add (D 2) 1) ?_
    refine E_callS (As := [_, _]) (kc' := 0) (ks' := 0) (kc := 0) (ks := 0) dX12_turns0_21 ok_X12_min w_X12_292 st_X12_min rfl rfl rfl (Nat.le_of_ble_eq_true rfl) (Nat.le_of_ble_eq_true rfl) (Nat.le_refl _) (m_min ?_)
    refine E.top (mn_n (by decide) (by omega)) ?_
    refine E_iastN dX12_turns0_24 rfl (Nat.lt_of_lt_of_le (by decide) hN) (by omega) ?_
    refine E_aload_n dX12_turns0_25 rfl ?_
    refine E_getR dX12_turns0_26 f_X12_7 rfl (Nat.lt_of_lt_of_le (by decide) hN) rfl (hR _ _ _ rfl) ?_
    refine E_bp (nI 24) dX12_turns0_29 (by decide) ?_
    refine E_iload_n dX12_turns0_31 rfl ?_
    refine E_iadd dX12_turns0_32 ?_
    refine E.top (nI_add 24 k) ?_
    refine E_ialdN dX12_turns0_33 rfl (Nat.lt_of_lt_of_le (by decide) hN) (by omega) ?_
    refine E.top (up2_s _ _ _ _) ?_
    refine E_ic (nI 5) dX12_turns0_34 (by decide) ?_
    refine E_cN_le (a := min 9 (D 2 + 1)) (b := 5) (tgt := 44) dX12_turns0_35 (by omega) (by decide) (by decide) (fun cw35 => ?_) (fun cw35 => absurd cw35 (by omega))
    exact E_ret dX12_turns0_44 rfl (hQ _ (hD.st hk (j := 2) (v := min 9 (D 2 + 1)) (by omega)).2 (hD.st hk (j := 2) (v := min 9 (D 2 + 1)) (by omega)).1)
set_option maxRecDepth 100000 in
set_option maxHeartbeats 2000000 in
theorem m_unstops0 (hN : 152 ≤ n) (hR : RS R) (hk : k < 12) (hq : LWF q) (hLN : LN ≤ 24) (hX : MCr k LN Y S q I) (hO : okD LN D) (hD : MDr k 0 c0 Y D I) (hQ : ∀ I2 : IM, MFr k 0 I I2 → MDr k 0 c0 Y (opD D) I2 → Q none n I2 J R) : E g mX12_unstops d 0 0 0 (ent 2 [.ref 114, .int (nI k)]) [] n I J R Q := by
  refine E_aload_n dX12_unstops_0 rfl ?_
  refine E_getR dX12_unstops_1 f_X12_7 rfl (Nat.lt_of_lt_of_le (by decide) hN) rfl (hR _ _ _ rfl) ?_
  refine E_bp (nI 36) dX12_unstops_4 (by decide) ?_
  refine E_iload_n dX12_unstops_6 rfl ?_
  refine E_iadd dX12_unstops_7 ?_
  refine E.top (nI_add 36 k) ?_
  refine E_ic (nI 1) dX12_unstops_8 (by decide) ?_
  refine E_iastN dX12_unstops_9 rfl (Nat.lt_of_lt_of_le (by decide) hN) (by omega) ?_
  refine E_aload_n dX12_unstops_10 rfl ?_
  refine E_getR dX12_unstops_11 f_X12_7 rfl (Nat.lt_of_lt_of_le (by decide) hN) rfl (hR _ _ _ rfl) ?_
  refine E_bp (nI 24) dX12_unstops_14 (by decide) ?_
  refine E_iload_n dX12_unstops_16 rfl ?_
  refine E_iadd dX12_unstops_17 ?_
  refine E.top (nI_add 24 k) ?_
  refine E_ic (nI 0) dX12_unstops_18 (by decide) ?_
  refine E_iastN dX12_unstops_19 rfl (Nat.lt_of_lt_of_le (by decide) hN) (by omega) ?_
  exact E_ret dX12_unstops_20 rfl (hQ _ ((hD.st hk (j := 4) (v := 1) (by omega)).2.trans ((hD.st hk (j := 4) (v := 1) (by omega)).1.st hk (j := 2) (v := 0) (by omega)).2) ((hD.st hk (j := 4) (v := 1) (by omega)).1.st hk (j := 2) (v := 0) (by omega)).1)
set_option maxRecDepth 100000 in
set_option maxHeartbeats 2000000 in
theorem m_pulls0 (hN : 152 ≤ n) (hR : RS R) (hk : k < 12) (hq : LWF q) (hLN : LN ≤ 24) (hX : MCr k LN Y S q I) (hO : okD LN D) (hD : MDr k 0 c0 Y D I) (hF : ∀ j, j < 9 → I 134 j = fcI k LN Y S D i w j) (hQ : ∀ I2 : IM, MFr k 0 I I2 → MDr k 0 c0 Y (if (amQ q (fcI k LN Y S D i w) 103 9) ≤ D 2 ∧ (brQ q (fcI k LN Y S D i w)) = 0 then opD D else lsD 2 D) I2 → Q none n I2 J R) : E g mX12_pulls (d + 4) 0 0 0 (ent 3 [.ref 114, .int (nI k)]) [] n I J R Q := by
  have hO0 := hO
  have alm := amQ_le q (fcI k LN Y S D i w) 103 9
  have blm := brQ_le q (fcI k LN Y S D i w)
  obtain ⟨o0, o1, o2, o3, o4, o5, o6, o7, o8, o9⟩ := hO
  by_cases hc : (amQ q (fcI k LN Y S D i w) 103 9) ≤ D 2
  · by_cases hb : (brQ q (fcI k LN Y S D i w)) = 0
    · rw [if_pos ⟨hc, hb⟩] at hQ
      refine E_aload_n dX12_pulls_0 rfl ?_
      refine E_getR dX12_pulls_1 f_X12_7 rfl (Nat.lt_of_lt_of_le (by decide) hN) rfl (hR _ _ _ rfl) ?_
      refine E_bp (nI 24) dX12_pulls_4 (by decide) ?_
      refine E_iload_n dX12_pulls_6 rfl ?_
      refine E_iadd dX12_pulls_7 ?_
      refine E.top (nI_add 24 k) ?_
      refine E_ialdN dX12_pulls_8 rfl (Nat.lt_of_lt_of_le (by decide) hN) (by omega) ?_
      refine E.top (hD.1.2.2.1) ?_
      refine E_aload_n dX12_pulls_9 rfl ?_
      refine E_bp (nI 103) dX12_pulls_10 (by decide) ?_
      refine E_bp (nI 9) dX12_pulls_12 (by decide) ?_
      refine E_callV (As := [_, _]) (ci := 11) (kc' := 0) (ks' := 0) (kc := 0) (ks := 0) dX12_pulls_14 ok_X12_byLaw w_X12_304 i_X12_byLaw s_X12_byLaw rfl (by decide) rfl (Nat.lt_of_lt_of_le (by decide) hN) rfl rfl rfl (Nat.le_of_ble_eq_true rfl) (Nat.le_of_ble_eq_true rfl) (Nat.le_refl _) (m_byLaw (d := d + 1) (q := q) (fa := (fcI k LN Y S D i w)) (w := 103) (mo := 9) hN hR hq hX.2.2 hF (by decide) (by decide) (by decide) (fun I3 f_I3 => ?_))
      refine E_cN_lt (a := D 2) (b := amQ q (fcI k LN Y S D i w) 103 9) (tgt := 33) dX12_pulls_17 (by omega) (by omega) (by decide) (fun cw17 => absurd cw17 (by omega)) (fun cw17 => ?_)
      refine E_aload_n dX12_pulls_20 rfl ?_
      refine E_bp (nI 120) dX12_pulls_21 (by decide) ?_
      refine E_callV (As := [_]) (ci := 11) (kc' := 0) (ks' := 0) (kc := 0) (ks := 0) dX12_pulls_23 ok_X12_holdsAny w_X12_307 i_X12_holdsAny s_X12_holdsAny rfl (by decide) rfl (Nat.lt_of_lt_of_le (by decide) hN) rfl rfl rfl (Nat.le_of_ble_eq_true rfl) (Nat.le_of_ble_eq_true rfl) (Nat.le_refl _) (m_holdsAny (d := d + 1) (q := q) (fa := (fcI k LN Y S D i w)) hN hR hq (hX.keep (MFr.row (k := k) (wr := 0) f_I3 (by decide))).2.2 (fun j hj => (congrFun (f_I3 134 (by decide)) j).trans (hF j hj)) (fun I4 f_I4 => ?_))
      refine E_zN_ne (a := brQ q (fcI k LN Y S D i w)) (tgt := 33) dX12_pulls_26 (by omega) (by decide) (fun cw26 => absurd cw26 (by omega)) (fun cw26 => ?_)
      refine E_ic (nI 1) dX12_pulls_29 (by decide) ?_
      refine E_goto (tgt := 34) dX12_pulls_30 (by decide) ?_
      refine E_istore_n dX12_pulls_34 (Nat.le_of_ble_eq_true rfl) ?_
      refine E_iload_n dX12_pulls_35 rfl ?_
      refine E_zN_eq (a := 1) (tgt := 47) dX12_pulls_36 (by decide) (by decide) (fun cw36 => absurd cw36 (by omega)) (fun cw36 => ?_)
      refine E_aload_n dX12_pulls_39 rfl ?_
      refine E_iload_n dX12_pulls_40 rfl ?_
      refine E_callV (As := [_]) (ci := 11) (kc' := 0) (ks' := 0) (kc := 0) (ks := 0) dX12_pulls_41 ok_X12_unstops w_X12_310 i_X12_unstops s_X12_unstops rfl (by decide) rfl (Nat.lt_of_lt_of_le (by decide) hN) rfl rfl rfl (Nat.le_of_ble_eq_true rfl) (Nat.le_of_ble_eq_true rfl) (Nat.le_refl _) (m_unstops0 (D := D) hN hR hk hq hLN (hX.keep ((MFr.row (k := k) (wr := 0) f_I3 (by decide)).trans (MFr.row f_I4 (by decide)))) hO0 ((hD.row (f_I3 114 (by decide)) (f_I3 115 (by decide))).row (f_I4 114 (by decide)) (f_I4 115 (by decide))) (fun I5 f5 d5 => ?_))
      refine E_goto (tgt := 53) dX12_pulls_44 (by decide) ?_
      exact E_ret dX12_pulls_53 rfl (hQ I5 (((MFr.row (k := k) (wr := 0) f_I3 (by decide)).trans (MFr.row f_I4 (by decide))).trans f5) d5)
    · rw [if_neg (fun z => hb z.2)] at hQ
      refine E_aload_n dX12_pulls_0 rfl ?_
      refine E_getR dX12_pulls_1 f_X12_7 rfl (Nat.lt_of_lt_of_le (by decide) hN) rfl (hR _ _ _ rfl) ?_
      refine E_bp (nI 24) dX12_pulls_4 (by decide) ?_
      refine E_iload_n dX12_pulls_6 rfl ?_
      refine E_iadd dX12_pulls_7 ?_
      refine E.top (nI_add 24 k) ?_
      refine E_ialdN dX12_pulls_8 rfl (Nat.lt_of_lt_of_le (by decide) hN) (by omega) ?_
      refine E.top (hD.1.2.2.1) ?_
      refine E_aload_n dX12_pulls_9 rfl ?_
      refine E_bp (nI 103) dX12_pulls_10 (by decide) ?_
      refine E_bp (nI 9) dX12_pulls_12 (by decide) ?_
      refine E_callV (As := [_, _]) (ci := 11) (kc' := 0) (ks' := 0) (kc := 0) (ks := 0) dX12_pulls_14 ok_X12_byLaw w_X12_304 i_X12_byLaw s_X12_byLaw rfl (by decide) rfl (Nat.lt_of_lt_of_le (by decide) hN) rfl rfl rfl (Nat.le_of_ble_eq_true rfl) (Nat.le_of_ble_eq_true rfl) (Nat.le_refl _) (m_byLaw (d := d + 1) (q := q) (fa := (fcI k LN Y S D i w)) (w := 103) (mo := 9) hN hR hq hX.2.2 hF (by decide) (by decide) (by decide) (fun I3 f_I3 => ?_))
      refine E_cN_lt (a := D 2) (b := amQ q (fcI k LN Y S D i w) 103 9) (tgt := 33) dX12_pulls_17 (by omega) (by omega) (by decide) (fun cw17 => absurd cw17 (by omega)) (fun cw17 => ?_)
      refine E_aload_n dX12_pulls_20 rfl ?_
      refine E_bp (nI 120) dX12_pulls_21 (by decide) ?_
      refine E_callV (As := [_]) (ci := 11) (kc' := 0) (ks' := 0) (kc := 0) (ks := 0) dX12_pulls_23 ok_X12_holdsAny w_X12_307 i_X12_holdsAny s_X12_holdsAny rfl (by decide) rfl (Nat.lt_of_lt_of_le (by decide) hN) rfl rfl rfl (Nat.le_of_ble_eq_true rfl) (Nat.le_of_ble_eq_true rfl) (Nat.le_refl _) (m_holdsAny (d := d + 1) (q := q) (fa := (fcI k LN Y S D i w)) hN hR hq (hX.keep (MFr.row (k := k) (wr := 0) f_I3 (by decide))).2.2 (fun j hj => (congrFun (f_I3 134 (by decide)) j).trans (hF j hj)) (fun I4 f_I4 => ?_))
      refine E_zN_ne (a := brQ q (fcI k LN Y S D i w)) (tgt := 33) dX12_pulls_26 (by omega) (by decide) (fun cw26 => ?_) (fun cw26 => absurd cw26 (by omega))
      refine E_ic (nI 0) dX12_pulls_33 (by decide) ?_
      refine E_istore_n dX12_pulls_34 (Nat.le_of_ble_eq_true rfl) ?_
      refine E_iload_n dX12_pulls_35 rfl ?_
      refine E_zN_eq (a := 0) (tgt := 47) dX12_pulls_36 (by decide) (by decide) (fun cw36 => ?_) (fun cw36 => absurd cw36 (by omega))
      refine E_aload_n dX12_pulls_47 rfl ?_
      refine E_iload_n dX12_pulls_48 rfl ?_
      refine E_ic (nI 2) dX12_pulls_49 (by decide) ?_
      refine E_callV (As := [_, _]) (ci := 11) (kc' := 0) (ks' := 0) (kc := 0) (ks := 0) dX12_pulls_50 ok_X12_corkLess w_X12_301 i_X12_corkLess s_X12_corkLess rfl (by decide) rfl (Nat.lt_of_lt_of_le (by decide) hN) rfl rfl rfl (Nat.le_of_ble_eq_true rfl) (Nat.le_of_ble_eq_true rfl) (Nat.le_refl _) (m_corkLess0 (d := d + 2) (b := 2) (D := D) hN hR hk hq hLN (hX.keep ((MFr.row (k := k) (wr := 0) f_I3 (by decide)).trans (MFr.row f_I4 (by decide)))) hO0 ((hD.row (f_I3 114 (by decide)) (f_I3 115 (by decide))).row (f_I4 114 (by decide)) (f_I4 115 (by decide))) (by decide) (fun I5 f5 d5 => ?_))
      exact E_ret dX12_pulls_53 rfl (hQ I5 (((MFr.row (k := k) (wr := 0) f_I3 (by decide)).trans (MFr.row f_I4 (by decide))).trans f5) d5)
  · rw [if_neg (fun z => hc z.1)] at hQ
    refine E_aload_n dX12_pulls_0 rfl ?_
    refine E_getR dX12_pulls_1 f_X12_7 rfl (Nat.lt_of_lt_of_le (by decide) hN) rfl (hR _ _ _ rfl) ?_
    refine E_bp (nI 24) dX12_pulls_4 (by decide) ?_
    refine E_iload_n dX12_pulls_6 rfl ?_
    refine E_iadd dX12_pulls_7 ?_
    refine E.top (nI_add 24 k) ?_
    refine E_ialdN dX12_pulls_8 rfl (Nat.lt_of_lt_of_le (by decide) hN) (by omega) ?_
    refine E.top (hD.1.2.2.1) ?_
    refine E_aload_n dX12_pulls_9 rfl ?_
    refine E_bp (nI 103) dX12_pulls_10 (by decide) ?_
    refine E_bp (nI 9) dX12_pulls_12 (by decide) ?_
    refine E_callV (As := [_, _]) (ci := 11) (kc' := 0) (ks' := 0) (kc := 0) (ks := 0) dX12_pulls_14 ok_X12_byLaw w_X12_304 i_X12_byLaw s_X12_byLaw rfl (by decide) rfl (Nat.lt_of_lt_of_le (by decide) hN) rfl rfl rfl (Nat.le_of_ble_eq_true rfl) (Nat.le_of_ble_eq_true rfl) (Nat.le_refl _) (m_byLaw (d := d + 1) (q := q) (fa := (fcI k LN Y S D i w)) (w := 103) (mo := 9) hN hR hq hX.2.2 hF (by decide) (by decide) (by decide) (fun I3 f_I3 => ?_))
    refine E_cN_lt (a := D 2) (b := amQ q (fcI k LN Y S D i w) 103 9) (tgt := 33) dX12_pulls_17 (by omega) (by omega) (by decide) (fun cw17 => ?_) (fun cw17 => absurd cw17 (by omega))
    refine E_ic (nI 0) dX12_pulls_33 (by decide) ?_
    refine E_istore_n dX12_pulls_34 (Nat.le_of_ble_eq_true rfl) ?_
    refine E_iload_n dX12_pulls_35 rfl ?_
    refine E_zN_eq (a := 0) (tgt := 47) dX12_pulls_36 (by decide) (by decide) (fun cw36 => ?_) (fun cw36 => absurd cw36 (by omega))
    refine E_aload_n dX12_pulls_47 rfl ?_
    refine E_iload_n dX12_pulls_48 rfl ?_
    refine E_ic (nI 2) dX12_pulls_49 (by decide) ?_
    refine E_callV (As := [_, _]) (ci := 11) (kc' := 0) (ks' := 0) (kc := 0) (ks := 0) dX12_pulls_50 ok_X12_corkLess w_X12_301 i_X12_corkLess s_X12_corkLess rfl (by decide) rfl (Nat.lt_of_lt_of_le (by decide) hN) rfl rfl rfl (Nat.le_of_ble_eq_true rfl) (Nat.le_of_ble_eq_true rfl) (Nat.le_refl _) (m_corkLess0 (d := d + 2) (b := 2) (D := D) hN hR hk hq hLN (hX.keep (MFr.row (k := k) (wr := 0) f_I3 (by decide))) hO0 (hD.row (f_I3 114 (by decide)) (f_I3 115 (by decide))) (by decide) (fun I5 f5 d5 => ?_))
    exact E_ret dX12_pulls_53 rfl (hQ I5 ((MFr.row (k := k) (wr := 0) f_I3 (by decide)).trans f5) d5)
set_option maxRecDepth 100000 in
set_option maxHeartbeats 2000000 in
theorem m_shakes0 (hN : 152 ≤ n) (hR : RS R) (hk : k < 12) (hq : LWF q) (hLN : LN ≤ 24) (hX : MCr k LN Y S q I) (hO : okD LN D) (hD : MDr k 0 c0 Y D I) (hF : ∀ j, j < 9 → I 134 j = fcI k LN Y S D i w j) (hQ : ∀ I2 : IM, MFr k 0 I I2 → MDr k 0 c0 Y (d2D LN (amQ q (fcI k LN Y S D i w) 102 19) D) I2 → Q none n I2 J R) : E g mX12_shakes (d + 4) 0 0 0 (ent 2 [.ref 114, .int (nI k)]) [] n I J R Q := by
  have hO0 := hO
  have alm := amQ_le q (fcI k LN Y S D i w) 102 19
  obtain ⟨o0, o1, o2, o3, o4, o5, o6, o7, o8, o9⟩ := hO
  by_cases h4 : D 4 = 0
  · by_cases hz : min 19 (D 0 + amQ q (fcI k LN Y S D i w) 102 19) = 19
    · rw [show d2D LN (amQ q (fcI k LN Y S D i w) 102 19) D = cmD LN 1 (opD (up1 D 0 (min 19 (D 0 + amQ q (fcI k LN Y S D i w) 102 19)))) from if_pos ⟨h4, hz⟩] at hQ
      refine E_aload_n dX12_shakes_0 rfl ?_
      refine E_getR dX12_shakes_1 f_X12_7 rfl (Nat.lt_of_lt_of_le (by decide) hN) rfl (hR _ _ _ rfl) ?_
      refine E_ic (nI 0) dX12_shakes_4 (by decide) ?_
      refine E_iload_n dX12_shakes_5 rfl ?_
      refine E_iadd dX12_shakes_6 ?_
      refine E.top (nI_add 0 k) ?_
      refine E.top (congrArg nI (Nat.zero_add k)) ?_
      refine E_bp (nI 19) dX12_shakes_7 (by decide) ?_
      refine E_aload_n dX12_shakes_9 rfl ?_
      refine E_getR dX12_shakes_10 f_X12_7 rfl (Nat.lt_of_lt_of_le (by decide) hN) rfl (hR _ _ _ rfl) ?_
      refine E_ic (nI 0) dX12_shakes_13 (by decide) ?_
      refine E_iload_n dX12_shakes_14 rfl ?_
      refine E_iadd dX12_shakes_15 ?_
      refine E.top (nI_add 0 k) ?_
      refine E.top (congrArg nI (Nat.zero_add k)) ?_
      refine E_ialdN dX12_shakes_16 rfl (Nat.lt_of_lt_of_le (by decide) hN) (by omega) ?_
      refine E.top (hD.1.1) ?_
      refine E_aload_n dX12_shakes_17 rfl ?_
      refine E_bp (nI 102) dX12_shakes_18 (by decide) ?_
      refine E_bp (nI 19) dX12_shakes_20 (by decide) ?_
      refine E_callV (As := [_, _]) (ci := 11) (kc' := 0) (ks' := 0) (kc := 0) (ks := 0) dX12_shakes_22 ok_X12_byLaw w_X12_304 i_X12_byLaw s_X12_byLaw rfl (by decide) rfl (Nat.lt_of_lt_of_le (by decide) hN) rfl rfl rfl (Nat.le_of_ble_eq_true rfl) (Nat.le_of_ble_eq_true rfl) (Nat.le_refl _) (m_byLaw (d := d + 1) (q := q) (fa := (fcI k LN Y S D i w)) (w := 102) (mo := 19) hN hR hq hX.2.2 hF (by decide) (by decide) (by decide) (fun I3 f_I3 => ?_))
      refine E_iadd dX12_shakes_25 ?_
      refine E.top (nI_add (D 0) (amQ q (fcI k LN Y S D i w) 102 19)) ?_
      refine E_callS (As := [_, _]) (kc' := 0) (ks' := 0) (kc := 0) (ks := 0) dX12_shakes_26 ok_X12_min w_X12_292 st_X12_min rfl rfl rfl (Nat.le_of_ble_eq_true rfl) (Nat.le_of_ble_eq_true rfl) (Nat.le_refl _) (m_min ?_)
      refine E.top (mn_n (by decide) (by omega)) ?_
      refine E_iastN dX12_shakes_29 rfl (Nat.lt_of_lt_of_le (by decide) hN) (by omega) ?_
      refine E_aload_n dX12_shakes_30 rfl ?_
      refine E_getR dX12_shakes_31 f_X12_7 rfl (Nat.lt_of_lt_of_le (by decide) hN) rfl (hR _ _ _ rfl) ?_
      refine E_bp (nI 36) dX12_shakes_34 (by decide) ?_
      refine E_iload_n dX12_shakes_36 rfl ?_
      refine E_iadd dX12_shakes_37 ?_
      refine E.top (nI_add 36 k) ?_
      refine E_ialdN dX12_shakes_38 rfl (Nat.lt_of_lt_of_le (by decide) hN) (by omega) ?_
      refine E.top (((hD.row (f_I3 114 (by decide)) (f_I3 115 (by decide))).st hk (j := 0) (v := min 19 (D 0 + amQ q (fcI k LN Y S D i w) 102 19)) (by omega)).1.1.2.2.2.2.1) ?_
      refine E_ic (nI 1) dX12_shakes_39 (by decide) ?_
      refine E_cN_eq (a := D 4) (b := 1) (tgt := 56) dX12_shakes_40 (by omega) (by decide) (by decide) (fun cw40 => absurd cw40 (by omega)) (fun cw40 => ?_)
      refine E_aload_n dX12_shakes_43 rfl ?_
      refine E_getR dX12_shakes_44 f_X12_7 rfl (Nat.lt_of_lt_of_le (by decide) hN) rfl (hR _ _ _ rfl) ?_
      refine E_ic (nI 0) dX12_shakes_47 (by decide) ?_
      refine E_iload_n dX12_shakes_48 rfl ?_
      refine E_iadd dX12_shakes_49 ?_
      refine E.top (nI_add 0 k) ?_
      refine E.top (congrArg nI (Nat.zero_add k)) ?_
      refine E_ialdN dX12_shakes_50 rfl (Nat.lt_of_lt_of_le (by decide) hN) (by omega) ?_
      refine E.top (up2_s _ _ _ _) ?_
      refine E_bp (nI 19) dX12_shakes_51 (by decide) ?_
      refine E_cN_ge (a := min 19 (D 0 + amQ q (fcI k LN Y S D i w) 102 19)) (b := 19) (tgt := 57) dX12_shakes_53 (by omega) (by decide) (by decide) (fun cw53 => ?_) (fun cw53 => absurd cw53 (by omega))
      refine E_aload_n dX12_shakes_57 rfl ?_
      refine E_iload_n dX12_shakes_58 rfl ?_
      refine E_callV (As := [_]) (ci := 11) (kc' := 0) (ks' := 0) (kc := 0) (ks := 0) dX12_shakes_59 ok_X12_unstops w_X12_310 i_X12_unstops s_X12_unstops rfl (by decide) rfl (Nat.lt_of_lt_of_le (by decide) hN) rfl rfl rfl (Nat.le_of_ble_eq_true rfl) (Nat.le_of_ble_eq_true rfl) (Nat.le_refl _) (m_unstops0 (D := (up1 D 0 (min 19 (D 0 + amQ q (fcI k LN Y S D i w) 102 19)))) hN hR hk hq hLN (hX.keep ((MFr.row (k := k) (wr := 0) f_I3 (by decide)).trans ((hD.row (f_I3 114 (by decide)) (f_I3 115 (by decide))).st hk (j := 0) (v := min 19 (D 0 + amQ q (fcI k LN Y S D i w) 102 19)) (by omega)).2)) (fzD_ok hO0 (by omega)) ((hD.row (f_I3 114 (by decide)) (f_I3 115 (by decide))).st hk (j := 0) (v := min 19 (D 0 + amQ q (fcI k LN Y S D i w) 102 19)) (by omega)).1 (fun I5 f5 d5 => ?_))
      refine E_aload_n dX12_shakes_62 rfl ?_
      refine E_iload_n dX12_shakes_63 rfl ?_
      refine E_callV (As := [_]) (ci := 11) (kc' := 0) (ks' := 0) (kc := 0) (ks := 0) dX12_shakes_64 ok_X12_layerComes w_X12_313 i_X12_layerComes s_X12_layerComes rfl (by decide) rfl (Nat.lt_of_lt_of_le (by decide) hN) rfl rfl rfl (Nat.le_of_ble_eq_true rfl) (Nat.le_of_ble_eq_true rfl) (Nat.le_refl _) (m_layerComes0 (d := d + 2) (D := opD (up1 D 0 (min 19 (D 0 + amQ q (fcI k LN Y S D i w) 102 19)))) hN hR hk hq hLN (hX.keep (((MFr.row (k := k) (wr := 0) f_I3 (by decide)).trans ((hD.row (f_I3 114 (by decide)) (f_I3 115 (by decide))).st hk (j := 0) (v := min 19 (D 0 + amQ q (fcI k LN Y S D i w) 102 19)) (by omega)).2).trans f5)) (opD_ok (fzD_ok hO0 (by omega))) d5 (fun I6 f6 d6 => ?_))
      exact E_ret dX12_shakes_67 rfl (hQ I6 (((MFr.row (k := k) (wr := 0) f_I3 (by decide)).trans ((hD.row (f_I3 114 (by decide)) (f_I3 115 (by decide))).st hk (j := 0) (v := min 19 (D 0 + amQ q (fcI k LN Y S D i w) 102 19)) (by omega)).2).trans (f5.trans f6)) d6)
    · rw [show d2D LN (amQ q (fcI k LN Y S D i w) 102 19) D = (up1 D 0 (min 19 (D 0 + amQ q (fcI k LN Y S D i w) 102 19))) from if_neg (fun z => hz z.2)] at hQ
      refine E_aload_n dX12_shakes_0 rfl ?_
      refine E_getR dX12_shakes_1 f_X12_7 rfl (Nat.lt_of_lt_of_le (by decide) hN) rfl (hR _ _ _ rfl) ?_
      refine E_ic (nI 0) dX12_shakes_4 (by decide) ?_
      refine E_iload_n dX12_shakes_5 rfl ?_
      refine E_iadd dX12_shakes_6 ?_
      refine E.top (nI_add 0 k) ?_
      refine E.top (congrArg nI (Nat.zero_add k)) ?_
      refine E_bp (nI 19) dX12_shakes_7 (by decide) ?_
      refine E_aload_n dX12_shakes_9 rfl ?_
      refine E_getR dX12_shakes_10 f_X12_7 rfl (Nat.lt_of_lt_of_le (by decide) hN) rfl (hR _ _ _ rfl) ?_
      refine E_ic (nI 0) dX12_shakes_13 (by decide) ?_
      refine E_iload_n dX12_shakes_14 rfl ?_
      refine E_iadd dX12_shakes_15 ?_
      refine E.top (nI_add 0 k) ?_
      refine E.top (congrArg nI (Nat.zero_add k)) ?_
      refine E_ialdN dX12_shakes_16 rfl (Nat.lt_of_lt_of_le (by decide) hN) (by omega) ?_
      refine E.top (hD.1.1) ?_
      refine E_aload_n dX12_shakes_17 rfl ?_
      refine E_bp (nI 102) dX12_shakes_18 (by decide) ?_
      refine E_bp (nI 19) dX12_shakes_20 (by decide) ?_
      refine E_callV (As := [_, _]) (ci := 11) (kc' := 0) (ks' := 0) (kc := 0) (ks := 0) dX12_shakes_22 ok_X12_byLaw w_X12_304 i_X12_byLaw s_X12_byLaw rfl (by decide) rfl (Nat.lt_of_lt_of_le (by decide) hN) rfl rfl rfl (Nat.le_of_ble_eq_true rfl) (Nat.le_of_ble_eq_true rfl) (Nat.le_refl _) (m_byLaw (d := d + 1) (q := q) (fa := (fcI k LN Y S D i w)) (w := 102) (mo := 19) hN hR hq hX.2.2 hF (by decide) (by decide) (by decide) (fun I3 f_I3 => ?_))
      refine E_iadd dX12_shakes_25 ?_
      refine E.top (nI_add (D 0) (amQ q (fcI k LN Y S D i w) 102 19)) ?_
      refine E_callS (As := [_, _]) (kc' := 0) (ks' := 0) (kc := 0) (ks := 0) dX12_shakes_26 ok_X12_min w_X12_292 st_X12_min rfl rfl rfl (Nat.le_of_ble_eq_true rfl) (Nat.le_of_ble_eq_true rfl) (Nat.le_refl _) (m_min ?_)
      refine E.top (mn_n (by decide) (by omega)) ?_
      refine E_iastN dX12_shakes_29 rfl (Nat.lt_of_lt_of_le (by decide) hN) (by omega) ?_
      refine E_aload_n dX12_shakes_30 rfl ?_
      refine E_getR dX12_shakes_31 f_X12_7 rfl (Nat.lt_of_lt_of_le (by decide) hN) rfl (hR _ _ _ rfl) ?_
      refine E_bp (nI 36) dX12_shakes_34 (by decide) ?_
      refine E_iload_n dX12_shakes_36 rfl ?_
      refine E_iadd dX12_shakes_37 ?_
      refine E.top (nI_add 36 k) ?_
      refine E_ialdN dX12_shakes_38 rfl (Nat.lt_of_lt_of_le (by decide) hN) (by omega) ?_
      refine E.top (((hD.row (f_I3 114 (by decide)) (f_I3 115 (by decide))).st hk (j := 0) (v := min 19 (D 0 + amQ q (fcI k LN Y S D i w) 102 19)) (by omega)).1.1.2.2.2.2.1) ?_
      refine E_ic (nI 1) dX12_shakes_39 (by decide) ?_
      refine E_cN_eq (a := D 4) (b := 1) (tgt := 56) dX12_shakes_40 (by omega) (by decide) (by decide) (fun cw40 => absurd cw40 (by omega)) (fun cw40 => ?_)
      refine E_aload_n dX12_shakes_43 rfl ?_
      refine E_getR dX12_shakes_44 f_X12_7 rfl (Nat.lt_of_lt_of_le (by decide) hN) rfl (hR _ _ _ rfl) ?_
      refine E_ic (nI 0) dX12_shakes_47 (by decide) ?_
      refine E_iload_n dX12_shakes_48 rfl ?_
      refine E_iadd dX12_shakes_49 ?_
      refine E.top (nI_add 0 k) ?_
      refine E.top (congrArg nI (Nat.zero_add k)) ?_
      refine E_ialdN dX12_shakes_50 rfl (Nat.lt_of_lt_of_le (by decide) hN) (by omega) ?_
      refine E.top (up2_s _ _ _ _) ?_
      refine E_bp (nI 19) dX12_shakes_51 (by decide) ?_
      refine E_cN_ge (a := min 19 (D 0 + amQ q (fcI k LN Y S D i w) 102 19)) (b := 19) (tgt := 57) dX12_shakes_53 (by omega) (by decide) (by decide) (fun cw53 => absurd cw53 (by omega)) (fun cw53 => ?_)
      exact E_ret dX12_shakes_56 rfl (hQ _ ((MFr.row (k := k) (wr := 0) f_I3 (by decide)).trans ((hD.row (f_I3 114 (by decide)) (f_I3 115 (by decide))).st hk (j := 0) (v := min 19 (D 0 + amQ q (fcI k LN Y S D i w) 102 19)) (by omega)).2) ((hD.row (f_I3 114 (by decide)) (f_I3 115 (by decide))).st hk (j := 0) (v := min 19 (D 0 + amQ q (fcI k LN Y S D i w) 102 19)) (by omega)).1)
  · rw [show d2D LN (amQ q (fcI k LN Y S D i w) 102 19) D = (up1 D 0 (min 19 (D 0 + amQ q (fcI k LN Y S D i w) 102 19))) from if_neg (fun z => h4 z.1)] at hQ
    refine E_aload_n dX12_shakes_0 rfl ?_
    refine E_getR dX12_shakes_1 f_X12_7 rfl (Nat.lt_of_lt_of_le (by decide) hN) rfl (hR _ _ _ rfl) ?_
    refine E_ic (nI 0) dX12_shakes_4 (by decide) ?_
    refine E_iload_n dX12_shakes_5 rfl ?_
    refine E_iadd dX12_shakes_6 ?_
    refine E.top (nI_add 0 k) ?_
    refine E.top (congrArg nI (Nat.zero_add k)) ?_
    refine E_bp (nI 19) dX12_shakes_7 (by decide) ?_
    refine E_aload_n dX12_shakes_9 rfl ?_
    refine E_getR dX12_shakes_10 f_X12_7 rfl (Nat.lt_of_lt_of_le (by decide) hN) rfl (hR _ _ _ rfl) ?_
    refine E_ic (nI 0) dX12_shakes_13 (by decide) ?_
    refine E_iload_n dX12_shakes_14 rfl ?_
    refine E_iadd dX12_shakes_15 ?_
    refine E.top (nI_add 0 k) ?_
    refine E.top (congrArg nI (Nat.zero_add k)) ?_
    refine E_ialdN dX12_shakes_16 rfl (Nat.lt_of_lt_of_le (by decide) hN) (by omega) ?_
    refine E.top (hD.1.1) ?_
    refine E_aload_n dX12_shakes_17 rfl ?_
    refine E_bp (nI 102) dX12_shakes_18 (by decide) ?_
    refine E_bp (nI 19) dX12_shakes_20 (by decide) ?_
    refine E_callV (As := [_, _]) (ci := 11) (kc' := 0) (ks' := 0) (kc := 0) (ks := 0) dX12_shakes_22 ok_X12_byLaw w_X12_304 i_X12_byLaw s_X12_byLaw rfl (by decide) rfl (Nat.lt_of_lt_of_le (by decide) hN) rfl rfl rfl (Nat.le_of_ble_eq_true rfl) (Nat.le_of_ble_eq_true rfl) (Nat.le_refl _) (m_byLaw (d := d + 1) (q := q) (fa := (fcI k LN Y S D i w)) (w := 102) (mo := 19) hN hR hq hX.2.2 hF (by decide) (by decide) (by decide) (fun I3 f_I3 => ?_))
    refine E_iadd dX12_shakes_25 ?_
    refine E.top (nI_add (D 0) (amQ q (fcI k LN Y S D i w) 102 19)) ?_
    refine E_callS (As := [_, _]) (kc' := 0) (ks' := 0) (kc := 0) (ks := 0) dX12_shakes_26 ok_X12_min w_X12_292 st_X12_min rfl rfl rfl (Nat.le_of_ble_eq_true rfl) (Nat.le_of_ble_eq_true rfl) (Nat.le_refl _) (m_min ?_)
    refine E.top (mn_n (by decide) (by omega)) ?_
    refine E_iastN dX12_shakes_29 rfl (Nat.lt_of_lt_of_le (by decide) hN) (by omega) ?_
    refine E_aload_n dX12_shakes_30 rfl ?_
    refine E_getR dX12_shakes_31 f_X12_7 rfl (Nat.lt_of_lt_of_le (by decide) hN) rfl (hR _ _ _ rfl) ?_
    refine E_bp (nI 36) dX12_shakes_34 (by decide) ?_
    refine E_iload_n dX12_shakes_36 rfl ?_
    refine E_iadd dX12_shakes_37 ?_
    refine E.top (nI_add 36 k) ?_
    refine E_ialdN dX12_shakes_38 rfl (Nat.lt_of_lt_of_le (by decide) hN) (by omega) ?_
    refine E.top (((hD.row (f_I3 114 (by decide)) (f_I3 115 (by decide))).st hk (j := 0) (v := min 19 (D 0 + amQ q (fcI k LN Y S D i w) 102 19)) (by omega)).1.1.2.2.2.2.1) ?_
    refine E_ic (nI 1) dX12_shakes_39 (by decide) ?_
    refine E_cN_eq (a := D 4) (b := 1) (tgt := 56) dX12_shakes_40 (by omega) (by decide) (by decide) (fun cw40 => ?_) (fun cw40 => absurd cw40 (by omega))
    exact E_ret dX12_shakes_56 rfl (hQ _ ((MFr.row (k := k) (wr := 0) f_I3 (by decide)).trans ((hD.row (f_I3 114 (by decide)) (f_I3 115 (by decide))).st hk (j := 0) (v := min 19 (D 0 + amQ q (fcI k LN Y S D i w) 102 19)) (by omega)).2) ((hD.row (f_I3 114 (by decide)) (f_I3 115 (by decide))).st hk (j := 0) (v := min 19 (D 0 + amQ q (fcI k LN Y S D i w) 102 19)) (by omega)).1)
set_option maxRecDepth 100000 in
set_option maxHeartbeats 2000000 in
theorem m_pours0 (hN : 152 ≤ n) (hR : RS R) (hk : k < 12) (hq : LWF q) (hLN : LN ≤ 24) (hX : MCr k LN Y S q I) (hO : okD LN D) (hD : MDr k 0 c0 Y D I) (hF : ∀ j, j < 9 → I 134 j = fcI k LN Y S D i w j) (hQ : ∀ I2 : IM, MFr k 0 I I2 → MDr k 0 c0 Y (up1 (cmD LN (amQ q (fcI k LN Y S D i w) 100 9) D) 0 (D 0 - min (amQ q (fcI k LN Y S D i w) 100 9) (LN - D 3))) I2 → Q none n I2 J R) : E g mX12_pours (d + 4) 0 0 0 (ent 4 [.ref 114, .int (nI k)]) [] n I J R Q := by
  have hO0 := hO
  have alm := amQ_le q (fcI k LN Y S D i w) 100 9
  obtain ⟨o0, o1, o2, o3, o4, o5, o6, o7, o8, o9⟩ := hO
  have L : ∀ j, j ≤ (min (amQ q (fcI k LN Y S D i w) 100 9) (LN - D 3)) → ∀ I2 : IM, (MFr k 0 I I2 ∧ MDr k 0 c0 Y (cmD LN j D) I2) → E g mX12_pours (d + 4) 0 0 19 [.ref 114, .int (nI k), .int (nI (min (amQ q (fcI k LN Y S D i w) 100 9) (LN - D 3))), .int (nI j)] [] n I2 J R Q := by
    refine loopU (min (amQ q (fcI k LN Y S D i w) 100 9) (LN - D 3)) (fun I2 hv => ?_) (fun j hj ih I2 hv => ?_)
    · refine E_iload_n dX12_pours_19 rfl ?_
      refine E_iload_n dX12_pours_20 rfl ?_
      refine E_cN_ge (a := min (amQ q (fcI k LN Y S D i w) 100 9) (LN - D 3)) (b := min (amQ q (fcI k LN Y S D i w) 100 9) (LN - D 3)) (tgt := 35) dX12_pours_21 (by omega) (by omega) (by decide) (fun cw21 => ?_) (fun cw21 => absurd cw21 (by omega))
      refine E_aload_n dX12_pours_35 rfl ?_
      refine E_getR dX12_pours_36 f_X12_7 rfl (Nat.lt_of_lt_of_le (by decide) hN) rfl (hR _ _ _ rfl) ?_
      refine E_ic (nI 0) dX12_pours_39 (by decide) ?_
      refine E_iload_n dX12_pours_40 rfl ?_
      refine E_iadd dX12_pours_41 ?_
      refine E.top (nI_add 0 k) ?_
      refine E.top (congrArg nI (Nat.zero_add k)) ?_
      refine E_ic (nI 0) dX12_pours_42 (by decide) ?_
      refine E_aload_n dX12_pours_43 rfl ?_
      refine E_getR dX12_pours_44 f_X12_7 rfl (Nat.lt_of_lt_of_le (by decide) hN) rfl (hR _ _ _ rfl) ?_
      refine E_ic (nI 0) dX12_pours_47 (by decide) ?_
      refine E_iload_n dX12_pours_48 rfl ?_
      refine E_iadd dX12_pours_49 ?_
      refine E.top (nI_add 0 k) ?_
      refine E.top (congrArg nI (Nat.zero_add k)) ?_
      refine E_ialdN dX12_pours_50 rfl (Nat.lt_of_lt_of_le (by decide) hN) (by omega) ?_
      refine E.top (hv.2.1.1) ?_
      refine E_iload_n dX12_pours_51 rfl ?_
      refine E_isub dX12_pours_52 ?_
      refine E_callS (As := [_, _]) (kc' := 0) (ks' := 0) (kc := 0) (ks := 0) dX12_pours_53 ok_X12_max w_X12_298 st_X12_max rfl rfl rfl (Nat.le_of_ble_eq_true rfl) (Nat.le_of_ble_eq_true rfl) (Nat.le_refl _) (m_maxI ?_)
      refine E.top (mx_n (a := D 0) (b := min (amQ q (fcI k LN Y S D i w) 100 9) (LN - D 3)) (by omega) (by omega)) ?_
      refine E_iastN dX12_pours_56 rfl (Nat.lt_of_lt_of_le (by decide) hN) (by omega) ?_
      exact E_ret dX12_pours_57 rfl (hQ _ (hv.1.trans (hv.2.st hk (j := 0) (v := D 0 - min (amQ q (fcI k LN Y S D i w) 100 9) (LN - D 3)) (by omega)).2) (by rw [← cm_m]; exact (hv.2.st hk (j := 0) (v := D 0 - min (amQ q (fcI k LN Y S D i w) 100 9) (LN - D 3)) (by omega)).1))
    · refine E_iload_n dX12_pours_19 rfl ?_
      refine E_iload_n dX12_pours_20 rfl ?_
      refine E_cN_ge (a := j) (b := min (amQ q (fcI k LN Y S D i w) 100 9) (LN - D 3)) (tgt := 35) dX12_pours_21 (by omega) (by omega) (by decide) (fun cw21 => absurd cw21 (by omega)) (fun cw21 => ?_)
      refine E_aload_n dX12_pours_24 rfl ?_
      refine E_iload_n dX12_pours_25 rfl ?_
      refine E_callV (As := [_]) (ci := 11) (kc' := 0) (ks' := 0) (kc := 0) (ks := 0) dX12_pours_26 ok_X12_layerComes w_X12_313 i_X12_layerComes s_X12_layerComes rfl (by decide) rfl (Nat.lt_of_lt_of_le (by decide) hN) rfl rfl rfl (Nat.le_of_ble_eq_true rfl) (Nat.le_of_ble_eq_true rfl) (Nat.le_refl _) (m_layerComes0 (d := d + 2) (D := cmD LN j D) hN hR hk hq hLN (hX.keep hv.1) (cmD_ok hO0) hv.2 (fun I6 f6 d6 => ?_))
      refine E_incN dX12_pours_29 rfl ?_
      refine E_goto (tgt := 19) dX12_pours_32 (by decide) ?_
      refine ih I6 ⟨hv.1.trans f6, ?_⟩
      rw [← cm_s (by omega)]
      exact d6
  refine E_aload_n dX12_pours_0 rfl ?_
  refine E_bp (nI 100) dX12_pours_1 (by decide) ?_
  refine E_bp (nI 9) dX12_pours_3 (by decide) ?_
  refine E_callV (As := [_, _]) (ci := 11) (kc' := 0) (ks' := 0) (kc := 0) (ks := 0) dX12_pours_5 ok_X12_byLaw w_X12_304 i_X12_byLaw s_X12_byLaw rfl (by decide) rfl (Nat.lt_of_lt_of_le (by decide) hN) rfl rfl rfl (Nat.le_of_ble_eq_true rfl) (Nat.le_of_ble_eq_true rfl) (Nat.le_refl _) (m_byLaw (d := d + 1) (q := q) (fa := (fcI k LN Y S D i w)) (w := 100) (mo := 9) hN hR hq hX.2.2 hF (by decide) (by decide) (by decide) (fun I3 f_I3 => ?_))
  refine E_aload_n dX12_pours_8 rfl ?_
  refine E_iload_n dX12_pours_9 rfl ?_
  refine E_callV (As := [_]) (ci := 11) (kc' := 0) (ks' := 0) (kc := 0) (ks := 0) dX12_pours_10 ok_X12_leftOf w_X12_286 i_X12_leftOf s_X12_leftOf rfl (by decide) rfl (Nat.lt_of_lt_of_le (by decide) hN) rfl rfl rfl (Nat.le_of_ble_eq_true rfl) (Nat.le_of_ble_eq_true rfl) (Nat.le_refl _) (m_lftD (d := d + 3) (D := D) hN hR hk (hX.keep (MFr.row (k := k) (wr := 0) f_I3 (by decide))) o3 (hD.row (f_I3 114 (by decide)) (f_I3 115 (by decide))) ?_)
  refine E_callS (As := [_, _]) (kc' := 0) (ks' := 0) (kc := 0) (ks := 0) dX12_pours_13 ok_X12_min w_X12_292 st_X12_min rfl rfl rfl (Nat.le_of_ble_eq_true rfl) (Nat.le_of_ble_eq_true rfl) (Nat.le_refl _) (m_min ?_)
  refine E.top (mn_n (a := amQ q (fcI k LN Y S D i w) 100 9) (b := LN - D 3) (by omega) (by omega)) ?_
  refine E_istore_n dX12_pours_16 (Nat.le_of_ble_eq_true rfl) ?_
  refine E_ic (nI 0) dX12_pours_17 (by decide) ?_
  refine E_istore_n dX12_pours_18 (Nat.le_of_ble_eq_true rfl) ?_
  refine L 0 (Nat.zero_le _) I3 ⟨(MFr.row (k := k) (wr := 0) f_I3 (by decide)), ?_⟩
  rw [cm_0 (show min 0 (LN - D 3) = 0 by omega)]
  exact (hD.row (f_I3 114 (by decide)) (f_I3 115 (by decide)))
theorem MDr.any {k c0 : Nat} {Y D : FN} {I : IM} {v : Nat} (h : MDr k 0 c0 Y D I) : MDr k 0 c0 Y (up1 D 6 v) I := ⟨h.1, fun z => absurd z (by decide)⟩
set_option maxRecDepth 100000 in
set_option maxHeartbeats 2000000 in
theorem m_does00 (hN : 152 ≤ n) (hR : RS R) (hk : k < 12) (hq : LWF q) (hLN : LN ≤ 24) (hX : MCr k LN Y S q I) (hO : okD LN D) (hD : MDr k 0 c0 Y D I) (hF : ∀ j, j < 9 → I 134 j = fcI k LN Y S D i w j) (h6 : D 6 = 99) (hQ : ∀ I2 : IM, MFr k 0 I I2 → MDr k 0 c0 Y (ddS q k LN Y S 0 i w D) I2 → Q none n I2 J R) : E g mX12_does (d + 5) 0 0 0 (ent 5 [.ref 114, .int (nI k), .int (nI 0), .int (nI 0)]) [] n I J R Q := by
  have hO0 := hO
  have alm := amQ_le q (fcI k LN Y S D i w) 97 19
  obtain ⟨o0, o1, o2, o3, o4, o5, o6, o7, o8, o9⟩ := hO
  by_cases h4 : D 4 = 0
  · rw [show ddS q k LN Y S 0 i w D = (if 5 < min 9 (D 2 + 1) then lsD 1 (up1 (up1 D 6 (D 6 - 1)) 2 (min 9 (D 2 + 1))) else up1 (up1 D 6 (D 6 - 1)) 2 (min 9 (D 2 + 1))) from (if_pos ⟨h4, by omega⟩).trans (by rw [up1_sw])] at hQ
    refine E_aload_n dX12_does_0 rfl ?_
    refine E_getR dX12_does_1 f_X12_7 rfl (Nat.lt_of_lt_of_le (by decide) hN) rfl (hR _ _ _ rfl) ?_
    refine E_bp (nI 36) dX12_does_4 (by decide) ?_
    refine E_iload_n dX12_does_6 rfl ?_
    refine E_iadd dX12_does_7 ?_
    refine E.top (nI_add 36 k) ?_
    refine E_ialdN dX12_does_8 rfl (Nat.lt_of_lt_of_le (by decide) hN) (by omega) ?_
    refine E.top (hD.1.2.2.2.2.1) ?_
    refine E_zN_ne (a := D 4) (tgt := 16) dX12_does_9 (by omega) (by decide) (fun cw9 => absurd cw9 (by omega)) (fun cw9 => ?_)
    refine E_ic (nI 1) dX12_does_12 (by decide) ?_
    refine E_goto (tgt := 17) dX12_does_13 (by decide) ?_
    refine E_istore dX12_does_17 (Nat.le_of_ble_eq_true rfl) ?_
    refine E_iload_n dX12_does_19 rfl ?_
    refine E_tin (tgt := 56) dX12_does_20 (by decide) (by decide) rfl (by decide) ?_
    refine E_iload dX12_does_56 rfl ?_
    refine E_zN_eq (a := 1) (tgt := 75) dX12_does_58 (by decide) (by decide) (fun cw58 => absurd cw58 (by omega)) (fun cw58 => ?_)
    refine E_iload_n dX12_does_61 rfl ?_
    refine E_zN_eq (a := 0) (tgt := 76) dX12_does_62 (by decide) (by decide) (fun cw62 => ?_) (fun cw62 => absurd cw62 (by omega))
    refine E_iload_n dX12_does_76 rfl ?_
    refine E_zN_eq (a := 0) (tgt := 96) dX12_does_77 (by decide) (by decide) (fun cw77 => ?_) (fun cw77 => absurd cw77 (by omega))
    refine E_aload_n dX12_does_96 rfl ?_
    refine E_iload_n dX12_does_97 rfl ?_
    refine E_callV (As := [_]) (ci := 11) (kc' := 0) (ks' := 0) (kc := 0) (ks := 0) dX12_does_98 ok_X12_turns0 w_X12_316 i_X12_turns0 s_X12_turns0 rfl (by decide) rfl (Nat.lt_of_lt_of_le (by decide) hN) rfl rfl rfl (Nat.le_of_ble_eq_true rfl) (Nat.le_of_ble_eq_true rfl) (Nat.le_refl _) (m_turns00 (d := d + 2) (D := up1 D 6 (D 6 - 1)) hN hR hk hq hLN hX ⟨o0, o1, o2, o3, o4, o5, o6, o7, by show D 6 - 1 ≤ 99; omega, o9⟩ hD.any h4 (fun I5 f5 d5 => ?_))
    exact E_ret dX12_does_101 rfl (hQ I5 f5 d5)
  · rw [show ddS q k LN Y S 0 i w D = D from if_neg (fun z => h4 z.1)] at hQ
    refine E_aload_n dX12_does_0 rfl ?_
    refine E_getR dX12_does_1 f_X12_7 rfl (Nat.lt_of_lt_of_le (by decide) hN) rfl (hR _ _ _ rfl) ?_
    refine E_bp (nI 36) dX12_does_4 (by decide) ?_
    refine E_iload_n dX12_does_6 rfl ?_
    refine E_iadd dX12_does_7 ?_
    refine E.top (nI_add 36 k) ?_
    refine E_ialdN dX12_does_8 rfl (Nat.lt_of_lt_of_le (by decide) hN) (by omega) ?_
    refine E.top (hD.1.2.2.2.2.1) ?_
    refine E_zN_ne (a := D 4) (tgt := 16) dX12_does_9 (by omega) (by decide) (fun cw9 => ?_) (fun cw9 => absurd cw9 (by omega))
    refine E_ic (nI 0) dX12_does_16 (by decide) ?_
    refine E_istore dX12_does_17 (Nat.le_of_ble_eq_true rfl) ?_
    refine E_iload_n dX12_does_19 rfl ?_
    refine E_tin (tgt := 56) dX12_does_20 (by decide) (by decide) rfl (by decide) ?_
    refine E_iload dX12_does_56 rfl ?_
    refine E_zN_eq (a := 0) (tgt := 75) dX12_does_58 (by decide) (by decide) (fun cw58 => ?_) (fun cw58 => absurd cw58 (by omega))
    exact E_ret dX12_does_75 rfl (hQ I (MFr.refl _ _ I) hD)
set_option maxRecDepth 100000 in
set_option maxHeartbeats 2000000 in
theorem m_does10 (hN : 152 ≤ n) (hR : RS R) (hk : k < 12) (hq : LWF q) (hLN : LN ≤ 24) (hX : MCr k LN Y S q I) (hO : okD LN D) (hD : MDr k 0 c0 Y D I) (hF : ∀ j, j < 9 → I 134 j = fcI k LN Y S D i w j) (hQ : ∀ I2 : IM, MFr k 0 I I2 → MDr k 0 c0 Y (ddS q k LN Y S 1 i w D) I2 → Q none n I2 J R) : E g mX12_does (d + 5) 0 0 0 (ent 5 [.ref 114, .int (nI k), .int (nI 1), .int (nI 0)]) [] n I J R Q := by
  have hO0 := hO
  have alm := amQ_le q (fcI k LN Y S D i w) 97 19
  obtain ⟨o0, o1, o2, o3, o4, o5, o6, o7, o8, o9⟩ := hO
  by_cases h4 : D 4 = 0
  · rw [show ddS q k LN Y S 1 i w D = (if (amQ q (fcI k LN Y S D i w) 103 9) ≤ D 2 ∧ (brQ q (fcI k LN Y S D i w)) = 0 then opD D else lsD 2 D) from if_pos h4] at hQ
    refine E_aload_n dX12_does_0 rfl ?_
    refine E_getR dX12_does_1 f_X12_7 rfl (Nat.lt_of_lt_of_le (by decide) hN) rfl (hR _ _ _ rfl) ?_
    refine E_bp (nI 36) dX12_does_4 (by decide) ?_
    refine E_iload_n dX12_does_6 rfl ?_
    refine E_iadd dX12_does_7 ?_
    refine E.top (nI_add 36 k) ?_
    refine E_ialdN dX12_does_8 rfl (Nat.lt_of_lt_of_le (by decide) hN) (by omega) ?_
    refine E.top (hD.1.2.2.2.2.1) ?_
    refine E_zN_ne (a := D 4) (tgt := 16) dX12_does_9 (by omega) (by decide) (fun cw9 => absurd cw9 (by omega)) (fun cw9 => ?_)
    refine E_ic (nI 1) dX12_does_12 (by decide) ?_
    refine E_goto (tgt := 17) dX12_does_13 (by decide) ?_
    refine E_istore dX12_does_17 (Nat.le_of_ble_eq_true rfl) ?_
    refine E_iload_n dX12_does_19 rfl ?_
    refine E_tin (tgt := 102) dX12_does_20 (by decide) (by decide) rfl (by decide) ?_
    refine E_iload dX12_does_102 rfl ?_
    refine E_zN_eq (a := 1) (tgt := 112) dX12_does_104 (by decide) (by decide) (fun cw104 => absurd cw104 (by omega)) (fun cw104 => ?_)
    refine E_aload_n dX12_does_107 rfl ?_
    refine E_iload_n dX12_does_108 rfl ?_
    refine E_callV (As := [_]) (ci := 11) (kc' := 0) (ks' := 0) (kc := 0) (ks := 0) dX12_does_109 ok_X12_pulls w_X12_319 i_X12_pulls s_X12_pulls rfl (by decide) rfl (Nat.lt_of_lt_of_le (by decide) hN) rfl rfl rfl (Nat.le_of_ble_eq_true rfl) (Nat.le_of_ble_eq_true rfl) (Nat.le_refl _) (m_pulls0 (d := d) (i := i) (w := w) hN hR hk hq hLN hX hO0 hD hF (fun I5 f5 d5 => ?_))
    exact E_ret dX12_does_112 rfl (hQ I5 f5 d5)
  · rw [show ddS q k LN Y S 1 i w D = D from if_neg h4] at hQ
    refine E_aload_n dX12_does_0 rfl ?_
    refine E_getR dX12_does_1 f_X12_7 rfl (Nat.lt_of_lt_of_le (by decide) hN) rfl (hR _ _ _ rfl) ?_
    refine E_bp (nI 36) dX12_does_4 (by decide) ?_
    refine E_iload_n dX12_does_6 rfl ?_
    refine E_iadd dX12_does_7 ?_
    refine E.top (nI_add 36 k) ?_
    refine E_ialdN dX12_does_8 rfl (Nat.lt_of_lt_of_le (by decide) hN) (by omega) ?_
    refine E.top (hD.1.2.2.2.2.1) ?_
    refine E_zN_ne (a := D 4) (tgt := 16) dX12_does_9 (by omega) (by decide) (fun cw9 => ?_) (fun cw9 => absurd cw9 (by omega))
    refine E_ic (nI 0) dX12_does_16 (by decide) ?_
    refine E_istore dX12_does_17 (Nat.le_of_ble_eq_true rfl) ?_
    refine E_iload_n dX12_does_19 rfl ?_
    refine E_tin (tgt := 102) dX12_does_20 (by decide) (by decide) rfl (by decide) ?_
    refine E_iload dX12_does_102 rfl ?_
    refine E_zN_eq (a := 0) (tgt := 112) dX12_does_104 (by decide) (by decide) (fun cw104 => ?_) (fun cw104 => absurd cw104 (by omega))
    exact E_ret dX12_does_112 rfl (hQ I (MFr.refl _ _ I) hD)
set_option maxRecDepth 100000 in
set_option maxHeartbeats 2000000 in
theorem m_does20 (hN : 152 ≤ n) (hR : RS R) (hk : k < 12) (hq : LWF q) (hLN : LN ≤ 24) (hX : MCr k LN Y S q I) (hO : okD LN D) (hD : MDr k 0 c0 Y D I) (hF : ∀ j, j < 9 → I 134 j = fcI k LN Y S D i w j) (hQ : ∀ I2 : IM, MFr k 0 I I2 → MDr k 0 c0 Y (ddS q k LN Y S 2 i w D) I2 → Q none n I2 J R) : E g mX12_does (d + 5) 0 0 0 (ent 5 [.ref 114, .int (nI k), .int (nI 2), .int (nI 0)]) [] n I J R Q := by
  have hO0 := hO
  have alm := amQ_le q (fcI k LN Y S D i w) 97 19
  obtain ⟨o0, o1, o2, o3, o4, o5, o6, o7, o8, o9⟩ := hO
  by_cases h4 : D 4 = 0
  · skip
    refine E_aload_n dX12_does_0 rfl ?_
    refine E_getR dX12_does_1 f_X12_7 rfl (Nat.lt_of_lt_of_le (by decide) hN) rfl (hR _ _ _ rfl) ?_
    refine E_bp (nI 36) dX12_does_4 (by decide) ?_
    refine E_iload_n dX12_does_6 rfl ?_
    refine E_iadd dX12_does_7 ?_
    refine E.top (nI_add 36 k) ?_
    refine E_ialdN dX12_does_8 rfl (Nat.lt_of_lt_of_le (by decide) hN) (by omega) ?_
    refine E.top (hD.1.2.2.2.2.1) ?_
    refine E_zN_ne (a := D 4) (tgt := 16) dX12_does_9 (by omega) (by decide) (fun cw9 => absurd cw9 (by omega)) (fun cw9 => ?_)
    refine E_ic (nI 1) dX12_does_12 (by decide) ?_
    refine E_goto (tgt := 17) dX12_does_13 (by decide) ?_
    refine E_istore dX12_does_17 (Nat.le_of_ble_eq_true rfl) ?_
    refine E_iload_n dX12_does_19 rfl ?_
    refine E_tin (tgt := 113) dX12_does_20 (by decide) (by decide) rfl (by decide) ?_
    refine E_aload_n dX12_does_113 rfl ?_
    refine E_iload_n dX12_does_114 rfl ?_
    refine E_callV (As := [_]) (ci := 11) (kc' := 0) (ks' := 0) (kc := 0) (ks := 0) dX12_does_115 ok_X12_shakes w_X12_322 i_X12_shakes s_X12_shakes rfl (by decide) rfl (Nat.lt_of_lt_of_le (by decide) hN) rfl rfl rfl (Nat.le_of_ble_eq_true rfl) (Nat.le_of_ble_eq_true rfl) (Nat.le_refl _) (m_shakes0 (d := d) (i := i) (w := w) hN hR hk hq hLN hX hO0 hD hF (fun I5 f5 d5 => ?_))
    exact E_ret dX12_does_118 rfl (hQ I5 f5 d5)
  · skip
    refine E_aload_n dX12_does_0 rfl ?_
    refine E_getR dX12_does_1 f_X12_7 rfl (Nat.lt_of_lt_of_le (by decide) hN) rfl (hR _ _ _ rfl) ?_
    refine E_bp (nI 36) dX12_does_4 (by decide) ?_
    refine E_iload_n dX12_does_6 rfl ?_
    refine E_iadd dX12_does_7 ?_
    refine E.top (nI_add 36 k) ?_
    refine E_ialdN dX12_does_8 rfl (Nat.lt_of_lt_of_le (by decide) hN) (by omega) ?_
    refine E.top (hD.1.2.2.2.2.1) ?_
    refine E_zN_ne (a := D 4) (tgt := 16) dX12_does_9 (by omega) (by decide) (fun cw9 => ?_) (fun cw9 => absurd cw9 (by omega))
    refine E_ic (nI 0) dX12_does_16 (by decide) ?_
    refine E_istore dX12_does_17 (Nat.le_of_ble_eq_true rfl) ?_
    refine E_iload_n dX12_does_19 rfl ?_
    refine E_tin (tgt := 113) dX12_does_20 (by decide) (by decide) rfl (by decide) ?_
    refine E_aload_n dX12_does_113 rfl ?_
    refine E_iload_n dX12_does_114 rfl ?_
    refine E_callV (As := [_]) (ci := 11) (kc' := 0) (ks' := 0) (kc := 0) (ks := 0) dX12_does_115 ok_X12_shakes w_X12_322 i_X12_shakes s_X12_shakes rfl (by decide) rfl (Nat.lt_of_lt_of_le (by decide) hN) rfl rfl rfl (Nat.le_of_ble_eq_true rfl) (Nat.le_of_ble_eq_true rfl) (Nat.le_refl _) (m_shakes0 (d := d) (i := i) (w := w) hN hR hk hq hLN hX hO0 hD hF (fun I5 f5 d5 => ?_))
    exact E_ret dX12_does_118 rfl (hQ I5 f5 d5)
set_option maxRecDepth 100000 in
set_option maxHeartbeats 2000000 in
theorem m_does30 (hN : 152 ≤ n) (hR : RS R) (hk : k < 12) (hq : LWF q) (hLN : LN ≤ 24) (hX : MCr k LN Y S q I) (hO : okD LN D) (hD : MDr k 0 c0 Y D I) (hF : ∀ j, j < 9 → I 134 j = fcI k LN Y S D i w j) (hQ : ∀ I2 : IM, MFr k 0 I I2 → MDr k 0 c0 Y (ddS q k LN Y S 3 i w D) I2 → Q none n I2 J R) : E g mX12_does (d + 5) 0 0 0 (ent 5 [.ref 114, .int (nI k), .int (nI 3), .int (nI 0)]) [] n I J R Q := by
  have hO0 := hO
  have alm := amQ_le q (fcI k LN Y S D i w) 97 19
  obtain ⟨o0, o1, o2, o3, o4, o5, o6, o7, o8, o9⟩ := hO
  by_cases h4 : D 4 = 0
  · skip
    refine E_aload_n dX12_does_0 rfl ?_
    refine E_getR dX12_does_1 f_X12_7 rfl (Nat.lt_of_lt_of_le (by decide) hN) rfl (hR _ _ _ rfl) ?_
    refine E_bp (nI 36) dX12_does_4 (by decide) ?_
    refine E_iload_n dX12_does_6 rfl ?_
    refine E_iadd dX12_does_7 ?_
    refine E.top (nI_add 36 k) ?_
    refine E_ialdN dX12_does_8 rfl (Nat.lt_of_lt_of_le (by decide) hN) (by omega) ?_
    refine E.top (hD.1.2.2.2.2.1) ?_
    refine E_zN_ne (a := D 4) (tgt := 16) dX12_does_9 (by omega) (by decide) (fun cw9 => absurd cw9 (by omega)) (fun cw9 => ?_)
    refine E_ic (nI 1) dX12_does_12 (by decide) ?_
    refine E_goto (tgt := 17) dX12_does_13 (by decide) ?_
    refine E_istore dX12_does_17 (Nat.le_of_ble_eq_true rfl) ?_
    refine E_iload_n dX12_does_19 rfl ?_
    refine E_tin (tgt := 119) dX12_does_20 (by decide) (by decide) rfl (by decide) ?_
    refine E_aload_n dX12_does_119 rfl ?_
    refine E_getR dX12_does_120 f_X12_7 rfl (Nat.lt_of_lt_of_le (by decide) hN) rfl (hR _ _ _ rfl) ?_
    refine E_ic (nI 0) dX12_does_123 (by decide) ?_
    refine E_iload_n dX12_does_124 rfl ?_
    refine E_iadd dX12_does_125 ?_
    refine E.top (nI_add 0 k) ?_
    refine E.top (congrArg nI (Nat.zero_add k)) ?_
    refine E_ic (nI 0) dX12_does_126 (by decide) ?_
    refine E_aload_n dX12_does_127 rfl ?_
    refine E_getR dX12_does_128 f_X12_7 rfl (Nat.lt_of_lt_of_le (by decide) hN) rfl (hR _ _ _ rfl) ?_
    refine E_ic (nI 0) dX12_does_131 (by decide) ?_
    refine E_iload_n dX12_does_132 rfl ?_
    refine E_iadd dX12_does_133 ?_
    refine E.top (nI_add 0 k) ?_
    refine E.top (congrArg nI (Nat.zero_add k)) ?_
    refine E_ialdN dX12_does_134 rfl (Nat.lt_of_lt_of_le (by decide) hN) (by omega) ?_
    refine E.top (hD.1.1) ?_
    refine E_aload_n dX12_does_135 rfl ?_
    refine E_bp (nI 97) dX12_does_136 (by decide) ?_
    refine E_bp (nI 19) dX12_does_138 (by decide) ?_
    refine E_callV (As := [_, _]) (ci := 11) (kc' := 0) (ks' := 0) (kc := 0) (ks := 0) dX12_does_140 ok_X12_byLaw w_X12_304 i_X12_byLaw s_X12_byLaw rfl (by decide) rfl (Nat.lt_of_lt_of_le (by decide) hN) rfl rfl rfl (Nat.le_of_ble_eq_true rfl) (Nat.le_of_ble_eq_true rfl) (Nat.le_refl _) (m_byLaw (d := d + 2) (q := q) (fa := (fcI k LN Y S D i w)) (w := 97) (mo := 19) hN hR hq hX.2.2 hF (by decide) (by decide) (by decide) (fun I3 f_I3 => ?_))
    refine E_isub dX12_does_143 ?_
    refine E_callS (As := [_, _]) (kc' := 0) (ks' := 0) (kc := 0) (ks := 0) dX12_does_144 ok_X12_max w_X12_298 st_X12_max rfl rfl rfl (Nat.le_of_ble_eq_true rfl) (Nat.le_of_ble_eq_true rfl) (Nat.le_refl _) (m_maxI ?_)
    refine E.top (mx_n (a := D 0) (b := amQ q (fcI k LN Y S D i w) 97 19) (by omega) (by omega)) ?_
    refine E_iastN dX12_does_147 rfl (Nat.lt_of_lt_of_le (by decide) hN) (by omega) ?_
    exact E_ret dX12_does_148 rfl (hQ _ ((MFr.row (k := k) (wr := 0) f_I3 (by decide)).trans ((hD.row (f_I3 114 (by decide)) (f_I3 115 (by decide))).st hk (j := 0) (v := D 0 - amQ q (fcI k LN Y S D i w) 97 19) (by omega)).2) ((hD.row (f_I3 114 (by decide)) (f_I3 115 (by decide))).st hk (j := 0) (v := D 0 - amQ q (fcI k LN Y S D i w) 97 19) (by omega)).1)
  · skip
    refine E_aload_n dX12_does_0 rfl ?_
    refine E_getR dX12_does_1 f_X12_7 rfl (Nat.lt_of_lt_of_le (by decide) hN) rfl (hR _ _ _ rfl) ?_
    refine E_bp (nI 36) dX12_does_4 (by decide) ?_
    refine E_iload_n dX12_does_6 rfl ?_
    refine E_iadd dX12_does_7 ?_
    refine E.top (nI_add 36 k) ?_
    refine E_ialdN dX12_does_8 rfl (Nat.lt_of_lt_of_le (by decide) hN) (by omega) ?_
    refine E.top (hD.1.2.2.2.2.1) ?_
    refine E_zN_ne (a := D 4) (tgt := 16) dX12_does_9 (by omega) (by decide) (fun cw9 => ?_) (fun cw9 => absurd cw9 (by omega))
    refine E_ic (nI 0) dX12_does_16 (by decide) ?_
    refine E_istore dX12_does_17 (Nat.le_of_ble_eq_true rfl) ?_
    refine E_iload_n dX12_does_19 rfl ?_
    refine E_tin (tgt := 119) dX12_does_20 (by decide) (by decide) rfl (by decide) ?_
    refine E_aload_n dX12_does_119 rfl ?_
    refine E_getR dX12_does_120 f_X12_7 rfl (Nat.lt_of_lt_of_le (by decide) hN) rfl (hR _ _ _ rfl) ?_
    refine E_ic (nI 0) dX12_does_123 (by decide) ?_
    refine E_iload_n dX12_does_124 rfl ?_
    refine E_iadd dX12_does_125 ?_
    refine E.top (nI_add 0 k) ?_
    refine E.top (congrArg nI (Nat.zero_add k)) ?_
    refine E_ic (nI 0) dX12_does_126 (by decide) ?_
    refine E_aload_n dX12_does_127 rfl ?_
    refine E_getR dX12_does_128 f_X12_7 rfl (Nat.lt_of_lt_of_le (by decide) hN) rfl (hR _ _ _ rfl) ?_
    refine E_ic (nI 0) dX12_does_131 (by decide) ?_
    refine E_iload_n dX12_does_132 rfl ?_
    refine E_iadd dX12_does_133 ?_
    refine E.top (nI_add 0 k) ?_
    refine E.top (congrArg nI (Nat.zero_add k)) ?_
    refine E_ialdN dX12_does_134 rfl (Nat.lt_of_lt_of_le (by decide) hN) (by omega) ?_
    refine E.top (hD.1.1) ?_
    refine E_aload_n dX12_does_135 rfl ?_
    refine E_bp (nI 97) dX12_does_136 (by decide) ?_
    refine E_bp (nI 19) dX12_does_138 (by decide) ?_
    refine E_callV (As := [_, _]) (ci := 11) (kc' := 0) (ks' := 0) (kc := 0) (ks := 0) dX12_does_140 ok_X12_byLaw w_X12_304 i_X12_byLaw s_X12_byLaw rfl (by decide) rfl (Nat.lt_of_lt_of_le (by decide) hN) rfl rfl rfl (Nat.le_of_ble_eq_true rfl) (Nat.le_of_ble_eq_true rfl) (Nat.le_refl _) (m_byLaw (d := d + 2) (q := q) (fa := (fcI k LN Y S D i w)) (w := 97) (mo := 19) hN hR hq hX.2.2 hF (by decide) (by decide) (by decide) (fun I3 f_I3 => ?_))
    refine E_isub dX12_does_143 ?_
    refine E_callS (As := [_, _]) (kc' := 0) (ks' := 0) (kc := 0) (ks := 0) dX12_does_144 ok_X12_max w_X12_298 st_X12_max rfl rfl rfl (Nat.le_of_ble_eq_true rfl) (Nat.le_of_ble_eq_true rfl) (Nat.le_refl _) (m_maxI ?_)
    refine E.top (mx_n (a := D 0) (b := amQ q (fcI k LN Y S D i w) 97 19) (by omega) (by omega)) ?_
    refine E_iastN dX12_does_147 rfl (Nat.lt_of_lt_of_le (by decide) hN) (by omega) ?_
    exact E_ret dX12_does_148 rfl (hQ _ ((MFr.row (k := k) (wr := 0) f_I3 (by decide)).trans ((hD.row (f_I3 114 (by decide)) (f_I3 115 (by decide))).st hk (j := 0) (v := D 0 - amQ q (fcI k LN Y S D i w) 97 19) (by omega)).2) ((hD.row (f_I3 114 (by decide)) (f_I3 115 (by decide))).st hk (j := 0) (v := D 0 - amQ q (fcI k LN Y S D i w) 97 19) (by omega)).1)
set_option maxRecDepth 100000 in
set_option maxHeartbeats 2000000 in
theorem m_does40 (hN : 152 ≤ n) (hR : RS R) (hk : k < 12) (hq : LWF q) (hLN : LN ≤ 24) (hX : MCr k LN Y S q I) (hO : okD LN D) (hD : MDr k 0 c0 Y D I) (hF : ∀ j, j < 9 → I 134 j = fcI k LN Y S D i w j) (hQ : ∀ I2 : IM, MFr k 0 I I2 → MDr k 0 c0 Y (ddS q k LN Y S 4 i w D) I2 → Q none n I2 J R) : E g mX12_does (d + 5) 0 0 0 (ent 5 [.ref 114, .int (nI k), .int (nI 4), .int (nI 0)]) [] n I J R Q := by
  have hO0 := hO
  have alm := amQ_le q (fcI k LN Y S D i w) 97 19
  obtain ⟨o0, o1, o2, o3, o4, o5, o6, o7, o8, o9⟩ := hO
  by_cases h4 : D 4 = 0
  · rw [show ddS q k LN Y S 4 i w D = D from if_pos h4] at hQ
    refine E_aload_n dX12_does_0 rfl ?_
    refine E_getR dX12_does_1 f_X12_7 rfl (Nat.lt_of_lt_of_le (by decide) hN) rfl (hR _ _ _ rfl) ?_
    refine E_bp (nI 36) dX12_does_4 (by decide) ?_
    refine E_iload_n dX12_does_6 rfl ?_
    refine E_iadd dX12_does_7 ?_
    refine E.top (nI_add 36 k) ?_
    refine E_ialdN dX12_does_8 rfl (Nat.lt_of_lt_of_le (by decide) hN) (by omega) ?_
    refine E.top (hD.1.2.2.2.2.1) ?_
    refine E_zN_ne (a := D 4) (tgt := 16) dX12_does_9 (by omega) (by decide) (fun cw9 => absurd cw9 (by omega)) (fun cw9 => ?_)
    refine E_ic (nI 1) dX12_does_12 (by decide) ?_
    refine E_goto (tgt := 17) dX12_does_13 (by decide) ?_
    refine E_istore dX12_does_17 (Nat.le_of_ble_eq_true rfl) ?_
    refine E_iload_n dX12_does_19 rfl ?_
    refine E_tin (tgt := 149) dX12_does_20 (by decide) (by decide) rfl (by decide) ?_
    refine E_iload dX12_does_149 rfl ?_
    refine E_zN_ne (a := 1) (tgt := 159) dX12_does_151 (by decide) (by decide) (fun cw151 => ?_) (fun cw151 => absurd cw151 (by omega))
    exact E_ret dX12_does_159 rfl (hQ I (MFr.refl _ _ I) hD)
  · rw [show ddS q k LN Y S 4 i w D = up1 (cmD LN (amQ q (fcI k LN Y S D i w) 100 9) D) 0 (D 0 - min (amQ q (fcI k LN Y S D i w) 100 9) (LN - D 3)) from if_neg h4] at hQ
    refine E_aload_n dX12_does_0 rfl ?_
    refine E_getR dX12_does_1 f_X12_7 rfl (Nat.lt_of_lt_of_le (by decide) hN) rfl (hR _ _ _ rfl) ?_
    refine E_bp (nI 36) dX12_does_4 (by decide) ?_
    refine E_iload_n dX12_does_6 rfl ?_
    refine E_iadd dX12_does_7 ?_
    refine E.top (nI_add 36 k) ?_
    refine E_ialdN dX12_does_8 rfl (Nat.lt_of_lt_of_le (by decide) hN) (by omega) ?_
    refine E.top (hD.1.2.2.2.2.1) ?_
    refine E_zN_ne (a := D 4) (tgt := 16) dX12_does_9 (by omega) (by decide) (fun cw9 => ?_) (fun cw9 => absurd cw9 (by omega))
    refine E_ic (nI 0) dX12_does_16 (by decide) ?_
    refine E_istore dX12_does_17 (Nat.le_of_ble_eq_true rfl) ?_
    refine E_iload_n dX12_does_19 rfl ?_
    refine E_tin (tgt := 149) dX12_does_20 (by decide) (by decide) rfl (by decide) ?_
    refine E_iload dX12_does_149 rfl ?_
    refine E_zN_ne (a := 0) (tgt := 159) dX12_does_151 (by decide) (by decide) (fun cw151 => absurd cw151 (by omega)) (fun cw151 => ?_)
    refine E_aload_n dX12_does_154 rfl ?_
    refine E_iload_n dX12_does_155 rfl ?_
    refine E_callV (As := [_]) (ci := 11) (kc' := 0) (ks' := 0) (kc := 0) (ks := 0) dX12_does_156 ok_X12_pours w_X12_325 i_X12_pours s_X12_pours rfl (by decide) rfl (Nat.lt_of_lt_of_le (by decide) hN) rfl rfl rfl (Nat.le_of_ble_eq_true rfl) (Nat.le_of_ble_eq_true rfl) (Nat.le_refl _) (m_pours0 (d := d) (i := i) (w := w) hN hR hk hq hLN hX hO0 hD hF (fun I5 f5 d5 => ?_))
    exact E_ret dX12_does_159 rfl (hQ I5 f5 d5)
set_option maxRecDepth 100000 in
set_option maxHeartbeats 2000000 in
theorem m_does50 (hN : 152 ≤ n) (hR : RS R) (hk : k < 12) (hq : LWF q) (hLN : LN ≤ 24) (hX : MCr k LN Y S q I) (hO : okD LN D) (hD : MDr k 0 c0 Y D I) (hF : ∀ j, j < 9 → I 134 j = fcI k LN Y S D i w j) (hQ : ∀ I2 : IM, MFr k 0 I I2 → MDr k 0 c0 Y (ddS q k LN Y S 5 i w D) I2 → Q none n I2 J R) : E g mX12_does (d + 5) 0 0 0 (ent 5 [.ref 114, .int (nI k), .int (nI 5), .int (nI 0)]) [] n I J R Q := by
  have hO0 := hO
  have alm := amQ_le q (fcI k LN Y S D i w) 97 19
  obtain ⟨o0, o1, o2, o3, o4, o5, o6, o7, o8, o9⟩ := hO
  by_cases h4 : D 4 = 0
  · skip
    refine E_aload_n dX12_does_0 rfl ?_
    refine E_getR dX12_does_1 f_X12_7 rfl (Nat.lt_of_lt_of_le (by decide) hN) rfl (hR _ _ _ rfl) ?_
    refine E_bp (nI 36) dX12_does_4 (by decide) ?_
    refine E_iload_n dX12_does_6 rfl ?_
    refine E_iadd dX12_does_7 ?_
    refine E.top (nI_add 36 k) ?_
    refine E_ialdN dX12_does_8 rfl (Nat.lt_of_lt_of_le (by decide) hN) (by omega) ?_
    refine E.top (hD.1.2.2.2.2.1) ?_
    refine E_zN_ne (a := D 4) (tgt := 16) dX12_does_9 (by omega) (by decide) (fun cw9 => absurd cw9 (by omega)) (fun cw9 => ?_)
    refine E_ic (nI 1) dX12_does_12 (by decide) ?_
    refine E_goto (tgt := 17) dX12_does_13 (by decide) ?_
    refine E_istore dX12_does_17 (Nat.le_of_ble_eq_true rfl) ?_
    refine E_iload_n dX12_does_19 rfl ?_
    refine E_tout (tgt := 160) dX12_does_20 (Or.inr (by decide)) (by decide) ?_
    refine E_aload_n dX12_does_160 rfl ?_
    refine E_getR dX12_does_161 f_X12_7 rfl (Nat.lt_of_lt_of_le (by decide) hN) rfl (hR _ _ _ rfl) ?_
    refine E_bp (nI 36) dX12_does_164 (by decide) ?_
    refine E_iload_n dX12_does_166 rfl ?_
    refine E_iadd dX12_does_167 ?_
    refine E.top (nI_add 36 k) ?_
    refine E_ic (nI 0) dX12_does_168 (by decide) ?_
    refine E_iastN dX12_does_169 rfl (Nat.lt_of_lt_of_le (by decide) hN) (by omega) ?_
    refine E_aload_n dX12_does_170 rfl ?_
    refine E_getR dX12_does_171 f_X12_7 rfl (Nat.lt_of_lt_of_le (by decide) hN) rfl (hR _ _ _ rfl) ?_
    refine E_bp (nI 12) dX12_does_174 (by decide) ?_
    refine E_iload_n dX12_does_176 rfl ?_
    refine E_iadd dX12_does_177 ?_
    refine E.top (nI_add 12 k) ?_
    refine E_bp (nI 9) dX12_does_178 (by decide) ?_
    refine E_iastN dX12_does_180 rfl (Nat.lt_of_lt_of_le (by decide) hN) (by omega) ?_
    refine E_aload_n dX12_does_181 rfl ?_
    refine E_getR dX12_does_182 f_X12_7 rfl (Nat.lt_of_lt_of_le (by decide) hN) rfl (hR _ _ _ rfl) ?_
    refine E_bp (nI 24) dX12_does_185 (by decide) ?_
    refine E_iload_n dX12_does_187 rfl ?_
    refine E_iadd dX12_does_188 ?_
    refine E.top (nI_add 24 k) ?_
    refine E_ic (nI 0) dX12_does_189 (by decide) ?_
    refine E_iastN dX12_does_190 rfl (Nat.lt_of_lt_of_le (by decide) hN) (by omega) ?_
    exact E_ret dX12_does_191 rfl (hQ _ ((hD.st hk (j := 4) (v := 0) (by omega)).2.trans (((hD.st hk (j := 4) (v := 0) (by omega)).1.st hk (j := 1) (v := 9) (by omega)).2.trans (((hD.st hk (j := 4) (v := 0) (by omega)).1.st hk (j := 1) (v := 9) (by omega)).1.st hk (j := 2) (v := 0) (by omega)).2)) (((hD.st hk (j := 4) (v := 0) (by omega)).1.st hk (j := 1) (v := 9) (by omega)).1.st hk (j := 2) (v := 0) (by omega)).1)
  · skip
    refine E_aload_n dX12_does_0 rfl ?_
    refine E_getR dX12_does_1 f_X12_7 rfl (Nat.lt_of_lt_of_le (by decide) hN) rfl (hR _ _ _ rfl) ?_
    refine E_bp (nI 36) dX12_does_4 (by decide) ?_
    refine E_iload_n dX12_does_6 rfl ?_
    refine E_iadd dX12_does_7 ?_
    refine E.top (nI_add 36 k) ?_
    refine E_ialdN dX12_does_8 rfl (Nat.lt_of_lt_of_le (by decide) hN) (by omega) ?_
    refine E.top (hD.1.2.2.2.2.1) ?_
    refine E_zN_ne (a := D 4) (tgt := 16) dX12_does_9 (by omega) (by decide) (fun cw9 => ?_) (fun cw9 => absurd cw9 (by omega))
    refine E_ic (nI 0) dX12_does_16 (by decide) ?_
    refine E_istore dX12_does_17 (Nat.le_of_ble_eq_true rfl) ?_
    refine E_iload_n dX12_does_19 rfl ?_
    refine E_tout (tgt := 160) dX12_does_20 (Or.inr (by decide)) (by decide) ?_
    refine E_aload_n dX12_does_160 rfl ?_
    refine E_getR dX12_does_161 f_X12_7 rfl (Nat.lt_of_lt_of_le (by decide) hN) rfl (hR _ _ _ rfl) ?_
    refine E_bp (nI 36) dX12_does_164 (by decide) ?_
    refine E_iload_n dX12_does_166 rfl ?_
    refine E_iadd dX12_does_167 ?_
    refine E.top (nI_add 36 k) ?_
    refine E_ic (nI 0) dX12_does_168 (by decide) ?_
    refine E_iastN dX12_does_169 rfl (Nat.lt_of_lt_of_le (by decide) hN) (by omega) ?_
    refine E_aload_n dX12_does_170 rfl ?_
    refine E_getR dX12_does_171 f_X12_7 rfl (Nat.lt_of_lt_of_le (by decide) hN) rfl (hR _ _ _ rfl) ?_
    refine E_bp (nI 12) dX12_does_174 (by decide) ?_
    refine E_iload_n dX12_does_176 rfl ?_
    refine E_iadd dX12_does_177 ?_
    refine E.top (nI_add 12 k) ?_
    refine E_bp (nI 9) dX12_does_178 (by decide) ?_
    refine E_iastN dX12_does_180 rfl (Nat.lt_of_lt_of_le (by decide) hN) (by omega) ?_
    refine E_aload_n dX12_does_181 rfl ?_
    refine E_getR dX12_does_182 f_X12_7 rfl (Nat.lt_of_lt_of_le (by decide) hN) rfl (hR _ _ _ rfl) ?_
    refine E_bp (nI 24) dX12_does_185 (by decide) ?_
    refine E_iload_n dX12_does_187 rfl ?_
    refine E_iadd dX12_does_188 ?_
    refine E.top (nI_add 24 k) ?_
    refine E_ic (nI 0) dX12_does_189 (by decide) ?_
    refine E_iastN dX12_does_190 rfl (Nat.lt_of_lt_of_le (by decide) hN) (by omega) ?_
    exact E_ret dX12_does_191 rfl (hQ _ ((hD.st hk (j := 4) (v := 0) (by omega)).2.trans (((hD.st hk (j := 4) (v := 0) (by omega)).1.st hk (j := 1) (v := 9) (by omega)).2.trans (((hD.st hk (j := 4) (v := 0) (by omega)).1.st hk (j := 1) (v := 9) (by omega)).1.st hk (j := 2) (v := 0) (by omega)).2)) (((hD.st hk (j := 4) (v := 0) (by omega)).1.st hk (j := 1) (v := 9) (by omega)).1.st hk (j := 2) (v := 0) (by omega)).1)
set_option maxRecDepth 100000 in
set_option maxHeartbeats 2000000 in
theorem m_doesA0 {dd : Nat} (hdd : dd < 6) (hN : 152 ≤ n) (hR : RS R) (hk : k < 12) (hq : LWF q) (hLN : LN ≤ 24) (hX : MCr k LN Y S q I) (hO : okD LN D) (hD : MDr k 0 c0 Y D I) (hF : ∀ j, j < 9 → I 134 j = fcI k LN Y S D i w j) (h6 : D 6 = 99) (hQ : ∀ I2 : IM, MFr k 0 I I2 → MDr k 0 c0 Y (ddS q k LN Y S dd i w D) I2 → Q none n I2 J R) : E g mX12_does (d + 5) 0 0 0 (ent 5 [.ref 114, .int (nI k), .int (nI dd), .int (nI 0)]) [] n I J R Q := by
  have cd : dd = 0 ∨ dd = 1 ∨ dd = 2 ∨ dd = 3 ∨ dd = 4 ∨ dd = 5 := by omega
  rcases cd with rfl | rfl | rfl | rfl | rfl | rfl
  · exact m_does00 hN hR hk hq hLN hX hO hD hF h6 hQ
  · exact m_does10 hN hR hk hq hLN hX hO hD hF hQ
  · exact m_does20 hN hR hk hq hLN hX hO hD hF hQ
  · exact m_does30 hN hR hk hq hLN hX hO hD hF hQ
  · exact m_does40 hN hR hk hq hLN hX hO hD hF hQ
  · exact m_does50 hN hR hk hq hLN hX hO hD hF hQ
end PDeedsM
