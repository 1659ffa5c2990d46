/-! ===== the reference's reader of a whole text with rounds ===== -/
/-- what the reader leaves alone -/
def fkR (k : Nat) : Prop := k < 7 ∨ k = 12 ∨ k = 14 ∨ (15 < k ∧ k < 34) ∨ 39 < k
def RGm (I I' : IM) : Prop := (∀ x, x ≠ 114 → x ≠ 135 → x ≠ 136 → x ≠ 137 → x ≠ 138 → I' x = I x) ∧ (∀ k, fkR k → I' 114 k = I 114 k) ∧ I' 114 7 = nI 0
section PRoundsM4
variable {g : GL} {d n : Nat} {I : IM} {J : JM} {R : RM} {Q : PQ} {t c : Nat → Nat} {L : Nat}
set_option maxRecDepth 100000 in
set_option maxHeartbeats 2000000 in
theorem m_beginsText (hN : 152 ≤ n) (hQ : Q none n (up2 (up2 (up2 (up2 I 114 8 (nI 0)) 114 9 (nI L)) 114 13 (nI 0)) 114 15 (nI 0)) J R) : E g mX12_beginsText d 0 0 0 (ent 2 [.ref 114, .int (nI L)]) [] n I J R Q := by
  refine E_aload_n dX12_beginsText_0 rfl ?_
  refine E_ic (nI 0) dX12_beginsText_1 (by decide) ?_
  refine E_putI dX12_beginsText_2 f_X12_136 rfl (Nat.lt_of_lt_of_le (by decide) hN) rfl ?_
  refine E_aload_n dX12_beginsText_5 rfl ?_
  refine E_iload_n dX12_beginsText_6 rfl ?_
  refine E_putI dX12_beginsText_7 f_X12_139 rfl (Nat.lt_of_lt_of_le (by decide) hN) rfl ?_
  refine E_aload_n dX12_beginsText_10 rfl ?_
  refine E_ic (nI 0) dX12_beginsText_11 (by decide) ?_
  refine E_putI dX12_beginsText_12 f_X12_160 rfl (Nat.lt_of_lt_of_le (by decide) hN) rfl ?_
  refine E_aload_n dX12_beginsText_15 rfl ?_
  refine E_ic (nI 0) dX12_beginsText_16 (by decide) ?_
  refine E_putI dX12_beginsText_17 f_X12_216 rfl (Nat.lt_of_lt_of_le (by decide) hN) rfl ?_
  exact E_ret dX12_beginsText_20 rfl (hQ)
set_option maxRecDepth 100000 in
set_option maxHeartbeats 2000000 in
theorem m_readsRow1 (hN : 152 ≤ n) (hR : RS R) (hc : okc t L c) (hL1 : 1 ≤ L) (hL : L ≤ 260) (hT : ∀ j, j < L → I 121 j &&& 255 = nI (t j)) (hQ : match rdS 1 24 L c with | .inl x => ∀ I2 : IM, RGm I I2 → I2 114 10 = x → Q (some (.int 0)) n I2 J R | .inr r => ∀ I2 : IM, RGm I I2 → I2 114 34 = nI r.2.1 → (∀ i, i < r.2.1 → I2 135 i = nI (r.2.2 i)) → Q (some (.int 1)) n I2 J R) : E g mX12_readsRow (d + 4) 0 0 0 (ent 4 [.ref 114, .int (nI L), .int (nI 1)]) [] n I J R Q := by
  obtain ⟨IB, hIB⟩ : ∃ IB : IM, (up2 (up2 (up2 (up2 (up2 (up2 (up2 (up2 I 114 8 (nI 0)) 114 9 (nI L)) 114 13 (nI 0)) 114 15 (nI 0)) 114 39 (nI 1)) 114 35 (nI 24)) 114 34 (nI 0)) 114 36 (nI 0)) = IB := ⟨_, rfl⟩
  have hB0 : ∀ x, x ≠ 114 → IB x = I x := fun x hx => by rw [← hIB, up2_o _ 114 _ _ x hx, up2_o _ 114 _ _ x hx, up2_o _ 114 _ _ x hx, up2_o _ 114 _ _ x hx, up2_o _ 114 _ _ x hx, up2_o _ 114 _ _ x hx, up2_o _ 114 _ _ x hx, up2_o _ 114 _ _ x hx]
  have hB1 : ∀ k, fkR k → IB 114 k = I 114 k := fun k hk => by unfold fkR at hk; rw [← hIB, up2_k _ _ (by omega), up2_k _ _ (by omega), up2_k _ _ (by omega), up2_k _ _ (by omega), up2_k _ _ (by omega), up2_k _ _ (by omega), up2_k _ _ (by omega), up2_k _ _ (by omega)]
  have hCB : CTm t L 24 1 IB := ⟨by rw [← hIB]; rfl, by rw [← hIB]; rfl, by rw [← hIB]; rfl, fun j hj => by rw [hB0 121 (by decide)]; exact hT j hj⟩
  have PB : RPm [] 0 0 (fun _ => 0) IB := ⟨by rw [← hIB]; rfl, by rw [← hIB]; rfl, fun i hi => absurd hi (Nat.not_lt_zero i), by rw [← hIB]; rfl, trivial⟩
  obtain ⟨HD, hHD⟩ : ∃ HD : SK → Nat → Nat → FN → Prop, HD = (fun (st : SK) (p s : Nat) (f : FN) => ∀ I2 : IM, RFm IB I2 → RPm st p s f I2 → E g mX12_readsRow (d + 4) 0 0 40 [.ref 114, .int (nI L), .int (nI 1), .int (nI 1)] [] n I2 J R Q) := ⟨_, rfl⟩
  obtain ⟨FL, hFL⟩ : ∃ FL : Int32 → Prop, FL = (fun (x : Int32) => ∀ I2 : IM, RFm IB I2 → I2 114 10 = x → E g mX12_readsRow (d + 4) 0 0 40 [.ref 114, .int (nI L), .int (nI 1), .int (nI 0)] [] n I2 J R Q) := ⟨_, rfl⟩
  obtain ⟨OK, hOK⟩ : ∃ OK : Nat → Nat → FN → Prop, OK = (fun (p s : Nat) (f : FN) => ∀ I2 : IM, RFm IB I2 → RPm [] p s f I2 → E g mX12_readsRow (d + 4) 0 0 70 [.ref 114, .int (nI L), .int (nI 1), .int (nI 1)] [] n I2 J R Q) := ⟨_, rfl⟩
  have hIt : ∀ (st : SK) (p s : Nat) (f : FN) (I2 : IM), hdO 24 L 1 st p s f → RFm IB I2 → RPm st p s f I2 → oI FL HD (itR 1 24 c (2 - st.length) st p s f) → E g mX12_readsRow (d + 4) 0 0 62 [.ref 114, .int (nI L), .int (nI 1), .int (nI 1)] [] n I2 J R Q := by
    intro st p s f I2 ho f2 P2 hi
    obtain ⟨o1, o2, o3, o4, o5, o6⟩ := ho
    subst hHD
    subst hFL
    refine E_aload_n dX12_readsRow_62 rfl ?_
    refine E_callV (As := []) (ci := 11) (kc' := 0) (ks' := 0) (kc := 0) (ks := 0) dX12_readsRow_63 ok_X12_readsIt w_X12_273 i_X12_readsIt s_X12_readsIt rfl (by decide) rfl (Nat.lt_of_lt_of_le (by decide) hN) rfl rfl rfl (Nat.le_of_ble_eq_true rfl) (Nat.le_of_ble_eq_true rfl) (Nat.le_refl _) (m_readsIt (d := d) (k := 2 - st.length) (st := st) (p := p) (s := s) (f := f) hN hR hc hL (hCB.keep f2) (by decide) (by decide) o2 o3 o6 (fun i hi => Nat.lt_trans (o5 i hi) (by decide)) (by omega) P2 ?_)
    cases hit : itR 1 24 c (2 - st.length) st p s f with
    | inl x =>
      rw [hit] at hi
      intro I4 f4 e4
      refine E_istore_n dX12_readsRow_66 (Nat.le_of_ble_eq_true rfl) ?_
      refine E_goto (tgt := 40) dX12_readsRow_67 (by decide) ?_
      exact hi I4 (f2.trans f4) e4
    | inr q =>
      rw [hit] at hi
      intro I4 f4 P4
      refine E_istore_n dX12_readsRow_66 (Nat.le_of_ble_eq_true rfl) ?_
      refine E_goto (tgt := 40) dX12_readsRow_67 (by decide) ?_
      exact hi I4 (f2.trans f4) P4
  have hor : oR FL OK (rdS 1 24 L c) := by
    cases hrd : rdS 1 24 L c with
    | inl x =>
      subst hFL
      intro I2 f2 e2
      refine E_iload_n dX12_readsRow_40 rfl ?_
      refine E_zN_eq (a := 0) (tgt := 70) dX12_readsRow_41 (by decide) (by decide) (fun cw41 => ?_) (fun cw41 => absurd cw41 (by omega))
      refine E_aload_n dX12_readsRow_70 rfl ?_
      refine E_ic (nI 0) dX12_readsRow_71 (by decide) ?_
      refine E_putI dX12_readsRow_72 f_X12_128 rfl (Nat.lt_of_lt_of_le (by decide) hN) rfl ?_
      refine E_iload_n dX12_readsRow_75 rfl ?_
      exact E_zret dX12_readsRow_76 rfl (by decide) ((show ∀ I2 : IM, RGm I I2 → I2 114 10 = x → Q (some (.int 0)) n I2 J R by rw [hrd] at hQ; exact hQ) _ ⟨fun x a1 a2 a3 a4 a5 => (up2_o _ 114 _ _ x a1).trans ((f2.1 x a1 a2 a3 a4 a5).trans (hB0 x a1)), fun k hk => (up2_k _ _ (by unfold fkR at hk; omega)).trans ((f2.2 k (by unfold fkR at hk; unfold fkM; omega)).trans (hB1 k hk)), up2_s _ _ _ _⟩ ((up2_k _ _ (by decide)).trans e2))
    | inr r =>
      subst hOK
      intro I2 f2 P2
      refine E_aload_n dX12_readsRow_70 rfl ?_
      refine E_ic (nI 0) dX12_readsRow_71 (by decide) ?_
      refine E_putI dX12_readsRow_72 f_X12_128 rfl (Nat.lt_of_lt_of_le (by decide) hN) rfl ?_
      refine E_iload_n dX12_readsRow_75 rfl ?_
      exact E_zret dX12_readsRow_76 rfl (by decide) ((show ∀ I2 : IM, RGm I I2 → I2 114 34 = nI r.2.1 → (∀ i, i < r.2.1 → I2 135 i = nI (r.2.2 i)) → Q (some (.int 1)) n I2 J R by rw [hrd] at hQ; exact hQ) _ ⟨fun x a1 a2 a3 a4 a5 => (up2_o _ 114 _ _ x a1).trans ((f2.1 x a1 a2 a3 a4 a5).trans (hB0 x a1)), fun k hk => (up2_k _ _ (by unfold fkR at hk; omega)).trans ((f2.2 k (by unfold fkR at hk; unfold fkM; omega)).trans (hB1 k hk)), up2_s _ _ _ _⟩ ((up2_k _ _ (by decide)).trans P2.2.1) (fun i hi => (congrFun (up2_o _ 114 _ _ 135 (by decide)) i).trans (P2.2.2.1 i hi)))
  have hi := rd_eq (HD := HD) (FL := FL) (OK := OK) (il := 1) (most := 24) (by decide) hc hL1 (fun st p s f ho h1 h2 => ?_) hor
  · subst hHD
    subst hFL
    refine E_aload_n dX12_readsRow_0 rfl ?_
    refine E_iload_n dX12_readsRow_1 rfl ?_
    refine E_callV (As := [_]) (ci := 11) (kc' := 0) (ks' := 0) (kc := 0) (ks := 0) dX12_readsRow_2 ok_X12_beginsText w_X12_222 i_X12_beginsText s_X12_beginsText rfl (by decide) rfl (Nat.lt_of_lt_of_le (by decide) hN) rfl rfl rfl (Nat.le_of_ble_eq_true rfl) (Nat.le_of_ble_eq_true rfl) (Nat.le_refl _) (m_beginsText hN ?_)
    refine E_aload_n dX12_readsRow_5 rfl ?_
    refine E_iload_n dX12_readsRow_6 rfl ?_
    refine E_putZ dX12_readsRow_7 f_X12_248 rfl (Nat.lt_of_lt_of_le (by decide) hN) rfl (by decide) ?_
    refine E_aload_n dX12_readsRow_10 rfl ?_
    refine E_iload_n dX12_readsRow_11 rfl ?_
    refine E_zN_eq (a := 1) (tgt := 20) dX12_readsRow_12 (by decide) (by decide) (fun cw12 => absurd cw12 (by omega)) (fun cw12 => ?_)
    refine E_bp (nI 24) dX12_readsRow_15 (by decide) ?_
    refine E_goto (tgt := 22) dX12_readsRow_17 (by decide) ?_
    refine E_putI dX12_readsRow_22 f_X12_255 rfl (Nat.lt_of_lt_of_le (by decide) hN) rfl ?_
    refine E_aload_n dX12_readsRow_25 rfl ?_
    refine E_ic (nI 0) dX12_readsRow_26 (by decide) ?_
    refine E_putI dX12_readsRow_27 f_X12_252 rfl (Nat.lt_of_lt_of_le (by decide) hN) rfl ?_
    refine E_aload_n dX12_readsRow_30 rfl ?_
    refine E_ic (nI 0) dX12_readsRow_31 (by decide) ?_
    refine E_putI dX12_readsRow_32 f_X12_261 rfl (Nat.lt_of_lt_of_le (by decide) hN) rfl ?_
    refine E.mem (show (up2 (up2 (up2 (up2 (up2 (up2 (up2 (up2 I 114 8 (nI 0)) 114 9 (nI L)) 114 13 (nI 0)) 114 15 (nI 0)) 114 39 (nI 1)) 114 35 (nI 24)) 114 34 (nI 0)) 114 36 (nI 0)) = IB from hIB) ?_
    refine E_aload_n dX12_readsRow_35 rfl ?_
    refine E_callV (As := []) (ci := 11) (kc' := 0) (ks' := 0) (kc := 0) (ks := 0) dX12_readsRow_36 ok_X12_readsIt w_X12_273 i_X12_readsIt s_X12_readsIt rfl (by decide) rfl (Nat.lt_of_lt_of_le (by decide) hN) rfl rfl rfl (Nat.le_of_ble_eq_true rfl) (Nat.le_of_ble_eq_true rfl) (Nat.le_refl _) (m_readsIt (d := d) (k := 2) (st := []) (p := 0) (s := 0) (f := fun _ => 0) hN hR hc hL hCB (by decide) (by decide) (Nat.zero_le _) (Nat.zero_le _) (fun e he => nomatch he) (fun i hi => absurd hi (Nat.not_lt_zero i)) rfl PB ?_)
    cases hit : itR 1 24 c 2 [] 0 0 (fun _ => 0) with
    | inl x =>
      rw [hit] at hi
      intro I4 f4 e4
      refine E_istore_n dX12_readsRow_39 (Nat.le_of_ble_eq_true rfl) ?_
      exact hi I4 f4 e4
    | inr q =>
      rw [hit] at hi
      intro I4 f4 P4
      refine E_istore_n dX12_readsRow_39 (Nat.le_of_ble_eq_true rfl) ?_
      exact hi I4 f4 P4
  · subst hOK
    subst hHD
    intro I2 f2 P2
    have o1 := ho.1
    have o2 := ho.2.1
    refine E_iload_n dX12_readsRow_40 rfl ?_
    refine E_zN_eq (a := 1) (tgt := 70) dX12_readsRow_41 (by decide) (by decide) (fun cw41 => absurd cw41 (by omega)) (fun cw41 => ?_)
    refine E_aload_n dX12_readsRow_44 rfl ?_
    refine E_getI dX12_readsRow_45 f_X12_136 rfl (Nat.lt_of_lt_of_le (by decide) hN) rfl ?_
    refine E.top (P2.1) ?_
    refine E_aload_n dX12_readsRow_48 rfl ?_
    refine E_getI dX12_readsRow_49 f_X12_139 rfl (Nat.lt_of_lt_of_le (by decide) hN) rfl ?_
    refine E.top ((hCB.keep f2).1) ?_
    refine E_cN_lt (a := p) (b := L) (tgt := 62) dX12_readsRow_52 (by omega) (by omega) (by decide) (fun cw52 => ?_) (fun cw52 => ?_)
    · by_cases hz : p < L ∨ st ≠ []
      · exact hIt st p s f I2 ho f2 P2 (h1 hz)
      · exact absurd (by first | exact Or.inl cw52 | exact Or.inr (List.ne_nil_of_length_pos cw59)) hz
    · refine E_aload_n dX12_readsRow_55 rfl ?_
      refine E_getI dX12_readsRow_56 f_X12_261 rfl (Nat.lt_of_lt_of_le (by decide) hN) rfl ?_
      refine E.top (P2.2.2.2.1) ?_
      refine E_zN_le (a := st.length) (tgt := 70) dX12_readsRow_59 (by omega) (by decide) (fun cw59 => ?_) (fun cw59 => ?_)
      · have hst : st = [] := List.length_eq_zero_iff.mp cw59
        subst hst
        exact h2 (fun z => z.elim (by omega) (fun z => z rfl)) I2 f2 P2
      · by_cases hz : p < L ∨ st ≠ []
        · exact hIt st p s f I2 ho f2 P2 (h1 hz)
        · exact absurd (by first | exact Or.inl cw52 | exact Or.inr (List.ne_nil_of_length_pos cw59)) hz
set_option maxRecDepth 100000 in
set_option maxHeartbeats 2000000 in
theorem m_readsRow0 (hN : 152 ≤ n) (hR : RS R) (hc : okc t L c) (hL1 : 1 ≤ L) (hL : L ≤ 260) (hT : ∀ j, j < L → I 121 j &&& 255 = nI (t j)) (hQ : match rdS 0 96 L c with | .inl x => ∀ I2 : IM, RGm I I2 → I2 114 10 = x → Q (some (.int 0)) n I2 J R | .inr r => ∀ I2 : IM, RGm I I2 → I2 114 34 = nI r.2.1 → (∀ i, i < r.2.1 → I2 135 i = nI (r.2.2 i)) → Q (some (.int 1)) n I2 J R) : E g mX12_readsRow (d + 4) 0 0 0 (ent 4 [.ref 114, .int (nI L), .int (nI 0)]) [] n I J R Q := by
  obtain ⟨IB, hIB⟩ : ∃ IB : IM, (up2 (up2 (up2 (up2 (up2 (up2 (up2 (up2 I 114 8 (nI 0)) 114 9 (nI L)) 114 13 (nI 0)) 114 15 (nI 0)) 114 39 (nI 0)) 114 35 (nI 96)) 114 34 (nI 0)) 114 36 (nI 0)) = IB := ⟨_, rfl⟩
  have hB0 : ∀ x, x ≠ 114 → IB x = I x := fun x hx => by rw [← hIB, up2_o _ 114 _ _ x hx, up2_o _ 114 _ _ x hx, up2_o _ 114 _ _ x hx, up2_o _ 114 _ _ x hx, up2_o _ 114 _ _ x hx, up2_o _ 114 _ _ x hx, up2_o _ 114 _ _ x hx, up2_o _ 114 _ _ x hx]
  have hB1 : ∀ k, fkR k → IB 114 k = I 114 k := fun k hk => by unfold fkR at hk; rw [← hIB, up2_k _ _ (by omega), up2_k _ _ (by omega), up2_k _ _ (by omega), up2_k _ _ (by omega), up2_k _ _ (by omega), up2_k _ _ (by omega), up2_k _ _ (by omega), up2_k _ _ (by omega)]
  have hCB : CTm t L 96 0 IB := ⟨by rw [← hIB]; rfl, by rw [← hIB]; rfl, by rw [← hIB]; rfl, fun j hj => by rw [hB0 121 (by decide)]; exact hT j hj⟩
  have PB : RPm [] 0 0 (fun _ => 0) IB := ⟨by rw [← hIB]; rfl, by rw [← hIB]; rfl, fun i hi => absurd hi (Nat.not_lt_zero i), by rw [← hIB]; rfl, trivial⟩
  obtain ⟨HD, hHD⟩ : ∃ HD : SK → Nat → Nat → FN → Prop, HD = (fun (st : SK) (p s : Nat) (f : FN) => ∀ I2 : IM, RFm IB I2 → RPm st p s f I2 → E g mX12_readsRow (d + 4) 0 0 40 [.ref 114, .int (nI L), .int (nI 0), .int (nI 1)] [] n I2 J R Q) := ⟨_, rfl⟩
  obtain ⟨FL, hFL⟩ : ∃ FL : Int32 → Prop, FL = (fun (x : Int32) => ∀ I2 : IM, RFm IB I2 → I2 114 10 = x → E g mX12_readsRow (d + 4) 0 0 40 [.ref 114, .int (nI L), .int (nI 0), .int (nI 0)] [] n I2 J R Q) := ⟨_, rfl⟩
  obtain ⟨OK, hOK⟩ : ∃ OK : Nat → Nat → FN → Prop, OK = (fun (p s : Nat) (f : FN) => ∀ I2 : IM, RFm IB I2 → RPm [] p s f I2 → E g mX12_readsRow (d + 4) 0 0 70 [.ref 114, .int (nI L), .int (nI 0), .int (nI 1)] [] n I2 J R Q) := ⟨_, rfl⟩
  have hIt : ∀ (st : SK) (p s : Nat) (f : FN) (I2 : IM), hdO 96 L 0 st p s f → RFm IB I2 → RPm st p s f I2 → oI FL HD (itR 0 96 c (2 - st.length) st p s f) → E g mX12_readsRow (d + 4) 0 0 62 [.ref 114, .int (nI L), .int (nI 0), .int (nI 1)] [] n I2 J R Q := by
    intro st p s f I2 ho f2 P2 hi
    obtain ⟨o1, o2, o3, o4, o5, o6⟩ := ho
    subst hHD
    subst hFL
    refine E_aload_n dX12_readsRow_62 rfl ?_
    refine E_callV (As := []) (ci := 11) (kc' := 0) (ks' := 0) (kc := 0) (ks := 0) dX12_readsRow_63 ok_X12_readsIt w_X12_273 i_X12_readsIt s_X12_readsIt rfl (by decide) rfl (Nat.lt_of_lt_of_le (by decide) hN) rfl rfl rfl (Nat.le_of_ble_eq_true rfl) (Nat.le_of_ble_eq_true rfl) (Nat.le_refl _) (m_readsIt (d := d) (k := 2 - st.length) (st := st) (p := p) (s := s) (f := f) hN hR hc hL (hCB.keep f2) (by decide) (by decide) o2 o3 o6 (fun i hi => Nat.lt_trans (o5 i hi) (by decide)) (by omega) P2 ?_)
    cases hit : itR 0 96 c (2 - st.length) st p s f with
    | inl x =>
      rw [hit] at hi
      intro I4 f4 e4
      refine E_istore_n dX12_readsRow_66 (Nat.le_of_ble_eq_true rfl) ?_
      refine E_goto (tgt := 40) dX12_readsRow_67 (by decide) ?_
      exact hi I4 (f2.trans f4) e4
    | inr q =>
      rw [hit] at hi
      intro I4 f4 P4
      refine E_istore_n dX12_readsRow_66 (Nat.le_of_ble_eq_true rfl) ?_
      refine E_goto (tgt := 40) dX12_readsRow_67 (by decide) ?_
      exact hi I4 (f2.trans f4) P4
  have hor : oR FL OK (rdS 0 96 L c) := by
    cases hrd : rdS 0 96 L c with
    | inl x =>
      subst hFL
      intro I2 f2 e2
      refine E_iload_n dX12_readsRow_40 rfl ?_
      refine E_zN_eq (a := 0) (tgt := 70) dX12_readsRow_41 (by decide) (by decide) (fun cw41 => ?_) (fun cw41 => absurd cw41 (by omega))
      refine E_aload_n dX12_readsRow_70 rfl ?_
      refine E_ic (nI 0) dX12_readsRow_71 (by decide) ?_
      refine E_putI dX12_readsRow_72 f_X12_128 rfl (Nat.lt_of_lt_of_le (by decide) hN) rfl ?_
      refine E_iload_n dX12_readsRow_75 rfl ?_
      exact E_zret dX12_readsRow_76 rfl (by decide) ((show ∀ I2 : IM, RGm I I2 → I2 114 10 = x → Q (some (.int 0)) n I2 J R by rw [hrd] at hQ; exact hQ) _ ⟨fun x a1 a2 a3 a4 a5 => (up2_o _ 114 _ _ x a1).trans ((f2.1 x a1 a2 a3 a4 a5).trans (hB0 x a1)), fun k hk => (up2_k _ _ (by unfold fkR at hk; omega)).trans ((f2.2 k (by unfold fkR at hk; unfold fkM; omega)).trans (hB1 k hk)), up2_s _ _ _ _⟩ ((up2_k _ _ (by decide)).trans e2))
    | inr r =>
      subst hOK
      intro I2 f2 P2
      refine E_aload_n dX12_readsRow_70 rfl ?_
      refine E_ic (nI 0) dX12_readsRow_71 (by decide) ?_
      refine E_putI dX12_readsRow_72 f_X12_128 rfl (Nat.lt_of_lt_of_le (by decide) hN) rfl ?_
      refine E_iload_n dX12_readsRow_75 rfl ?_
      exact E_zret dX12_readsRow_76 rfl (by decide) ((show ∀ I2 : IM, RGm I I2 → I2 114 34 = nI r.2.1 → (∀ i, i < r.2.1 → I2 135 i = nI (r.2.2 i)) → Q (some (.int 1)) n I2 J R by rw [hrd] at hQ; exact hQ) _ ⟨fun x a1 a2 a3 a4 a5 => (up2_o _ 114 _ _ x a1).trans ((f2.1 x a1 a2 a3 a4 a5).trans (hB0 x a1)), fun k hk => (up2_k _ _ (by unfold fkR at hk; omega)).trans ((f2.2 k (by unfold fkR at hk; unfold fkM; omega)).trans (hB1 k hk)), up2_s _ _ _ _⟩ ((up2_k _ _ (by decide)).trans P2.2.1) (fun i hi => (congrFun (up2_o _ 114 _ _ 135 (by decide)) i).trans (P2.2.2.1 i hi)))
  have hi := rd_eq (HD := HD) (FL := FL) (OK := OK) (il := 0) (most := 96) (by decide) hc hL1 (fun st p s f ho h1 h2 => ?_) hor
  · subst hHD
    subst hFL
    refine E_aload_n dX12_readsRow_0 rfl ?_
    refine E_iload_n dX12_readsRow_1 rfl ?_
    refine E_callV (As := [_]) (ci := 11) (kc' := 0) (ks' := 0) (kc := 0) (ks := 0) dX12_readsRow_2 ok_X12_beginsText w_X12_222 i_X12_beginsText s_X12_beginsText rfl (by decide) rfl (Nat.lt_of_lt_of_le (by decide) hN) rfl rfl rfl (Nat.le_of_ble_eq_true rfl) (Nat.le_of_ble_eq_true rfl) (Nat.le_refl _) (m_beginsText hN ?_)
    refine E_aload_n dX12_readsRow_5 rfl ?_
    refine E_iload_n dX12_readsRow_6 rfl ?_
    refine E_putZ dX12_readsRow_7 f_X12_248 rfl (Nat.lt_of_lt_of_le (by decide) hN) rfl (by decide) ?_
    refine E_aload_n dX12_readsRow_10 rfl ?_
    refine E_iload_n dX12_readsRow_11 rfl ?_
    refine E_zN_eq (a := 0) (tgt := 20) dX12_readsRow_12 (by decide) (by decide) (fun cw12 => ?_) (fun cw12 => absurd cw12 (by omega))
    refine E_bp (nI 96) dX12_readsRow_20 (by decide) ?_
    refine E_putI dX12_readsRow_22 f_X12_255 rfl (Nat.lt_of_lt_of_le (by decide) hN) rfl ?_
    refine E_aload_n dX12_readsRow_25 rfl ?_
    refine E_ic (nI 0) dX12_readsRow_26 (by decide) ?_
    refine E_putI dX12_readsRow_27 f_X12_252 rfl (Nat.lt_of_lt_of_le (by decide) hN) rfl ?_
    refine E_aload_n dX12_readsRow_30 rfl ?_
    refine E_ic (nI 0) dX12_readsRow_31 (by decide) ?_
    refine E_putI dX12_readsRow_32 f_X12_261 rfl (Nat.lt_of_lt_of_le (by decide) hN) rfl ?_
    refine E.mem (show (up2 (up2 (up2 (up2 (up2 (up2 (up2 (up2 I 114 8 (nI 0)) 114 9 (nI L)) 114 13 (nI 0)) 114 15 (nI 0)) 114 39 (nI 0)) 114 35 (nI 96)) 114 34 (nI 0)) 114 36 (nI 0)) = IB from hIB) ?_
    refine E_aload_n dX12_readsRow_35 rfl ?_
    refine E_callV (As := []) (ci := 11) (kc' := 0) (ks' := 0) (kc := 0) (ks := 0) dX12_readsRow_36 ok_X12_readsIt w_X12_273 i_X12_readsIt s_X12_readsIt rfl (by decide) rfl (Nat.lt_of_lt_of_le (by decide) hN) rfl rfl rfl (Nat.le_of_ble_eq_true rfl) (Nat.le_of_ble_eq_true rfl) (Nat.le_refl _) (m_readsIt (d := d) (k := 2) (st := []) (p := 0) (s := 0) (f := fun _ => 0) hN hR hc hL hCB (by decide) (by decide) (Nat.zero_le _) (Nat.zero_le _) (fun e he => nomatch he) (fun i hi => absurd hi (Nat.not_lt_zero i)) rfl PB ?_)
    cases hit : itR 0 96 c 2 [] 0 0 (fun _ => 0) with
    | inl x =>
      rw [hit] at hi
      intro I4 f4 e4
      refine E_istore_n dX12_readsRow_39 (Nat.le_of_ble_eq_true rfl) ?_
      exact hi I4 f4 e4
    | inr q =>
      rw [hit] at hi
      intro I4 f4 P4
      refine E_istore_n dX12_readsRow_39 (Nat.le_of_ble_eq_true rfl) ?_
      exact hi I4 f4 P4
  · subst hOK
    subst hHD
    intro I2 f2 P2
    have o1 := ho.1
    have o2 := ho.2.1
    refine E_iload_n dX12_readsRow_40 rfl ?_
    refine E_zN_eq (a := 1) (tgt := 70) dX12_readsRow_41 (by decide) (by decide) (fun cw41 => absurd cw41 (by omega)) (fun cw41 => ?_)
    refine E_aload_n dX12_readsRow_44 rfl ?_
    refine E_getI dX12_readsRow_45 f_X12_136 rfl (Nat.lt_of_lt_of_le (by decide) hN) rfl ?_
    refine E.top (P2.1) ?_
    refine E_aload_n dX12_readsRow_48 rfl ?_
    refine E_getI dX12_readsRow_49 f_X12_139 rfl (Nat.lt_of_lt_of_le (by decide) hN) rfl ?_
    refine E.top ((hCB.keep f2).1) ?_
    refine E_cN_lt (a := p) (b := L) (tgt := 62) dX12_readsRow_52 (by omega) (by omega) (by decide) (fun cw52 => ?_) (fun cw52 => ?_)
    · by_cases hz : p < L ∨ st ≠ []
      · exact hIt st p s f I2 ho f2 P2 (h1 hz)
      · exact absurd (by first | exact Or.inl cw52 | exact Or.inr (List.ne_nil_of_length_pos cw59)) hz
    · refine E_aload_n dX12_readsRow_55 rfl ?_
      refine E_getI dX12_readsRow_56 f_X12_261 rfl (Nat.lt_of_lt_of_le (by decide) hN) rfl ?_
      refine E.top (P2.2.2.2.1) ?_
      refine E_zN_le (a := st.length) (tgt := 70) dX12_readsRow_59 (by omega) (by decide) (fun cw59 => ?_) (fun cw59 => ?_)
      · have hst : st = [] := List.length_eq_zero_iff.mp cw59
        subst hst
        exact h2 (fun z => z.elim (by omega) (fun z => z rfl)) I2 f2 P2
      · by_cases hz : p < L ∨ st ≠ []
        · exact hIt st p s f I2 ho f2 P2 (h1 hz)
        · exact absurd (by first | exact Or.inl cw52 | exact Or.inr (List.ne_nil_of_length_pos cw59)) hz
end PRoundsM4
