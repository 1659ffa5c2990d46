/-! ===== the law's sums, as the reference reads them ===== -/
def OFm (B : WK) (I : IM) (J : JM) (R : RM) (n : Nat) (Q : PQ) : Int32 ⊕ (Nat × WK × TS) → Prop
  | .inl x => ∀ I' : IM, FLm I I' → I' 114 10 = x → Q (some (.int 0)) n I' J R
  | .inr r => ∀ I' : IM, FLm I I' → PLm r.1 (r.2.1 ++ B) r.2.2 I' → Q (some (.int 1)) n I' J R
theorem OFm.from {B : WK} {I I1 : IM} {J : JM} {R : RM} {n : Nat} {Q : PQ} (h : FLm I I1) : ∀ {r : Int32 ⊕ (Nat × WK × TS)}, OFm B I J R n Q r → OFm B I1 J R n Q r
  | .inl _, q => fun I' a b => q I' (h.trans a) b
  | .inr _, q => fun I' a b => q I' (h.trans a) b
theorem OFm.rw {B : WK} {I : IM} {J : JM} {R : RM} {n : Nat} {Q : PQ} {y z : Int32 ⊕ (Nat × WK × TS)} (h : OFm B I J R n Q y) (e : y = z) : OFm B I J R n Q z := e ▸ h
def OSm (k : Nat) (B : WK) (I : IM) (J : JM) (R : RM) (n : Nat) (Q : PQ) : PR → Prop
  | .inl x => ∀ I' : IM, FLm I I' → I' 114 10 = x → Q (some (.int 0)) n I' J R
  | .inr r => ∀ I' : IM, FLm I I' → PLm k B r I' → Q (some (.int 1)) n I' J R
theorem OSm.o {k : Nat} {B : WK} {I : IM} {J : JM} {R : RM} {n : Nat} {Q : PQ} : ∀ {x : PR}, OSm k B I J R n Q x → oP (fun x => ∀ I' : IM, FLm I I' → I' 114 10 = x → Q (some (.int 0)) n I' J R) (fun r => ∀ I' : IM, FLm I I' → PLm k B r I' → Q (some (.int 1)) n I' J R) x
  | .inl _, h => h
  | .inr _, h => h
def n14 : WK → Nat
  | [] => 0
  | e :: K => (if e.1 = 14 then 1 else 0) + n14 K
theorem n14_no : ∀ {st : WK}, no14 st → n14 st = 0
  | [], _ => rfl
  | e :: K, h => by
    show (if e.1 = 14 then 1 else 0) + n14 K = 0
    rw [if_neg (h e List.mem_cons_self), n14_no (fun x hx => h x (List.mem_cons_of_mem _ hx))]
theorem no14_n : ∀ {st : WK}, n14 st = 0 → no14 st
  | [], _ => fun e he => nomatch he
  | e :: K, h => by
    have h : (if e.1 = 14 then 1 else 0) + n14 K = 0 := h
    intro x hx
    by_cases c : e.1 = 14
    · rw [if_pos c] at h
      omega
    · rw [if_neg c] at h
      rcases List.mem_cons.mp hx with y | y
      · rw [y]; exact c
      · exact no14_n (st := K) (by omega) x y
theorem cs_inv {al : Bool} : ∀ (st : WK) (x : Nat × CDE), okW st → n14 (csR al st x).1 = n14 st ∧ okW (csR al st x).1 ∧ (csR al st x).2.1 + (csR al st x).1.length = x.1 + st.length ∧ (csR al st x).1.length ≤ st.length
  | [], x, h => ⟨rfl, h, rfl, Nat.le_refl _⟩
  | e :: st, x, h => by
    unfold csR
    by_cases c : (4 ≤ e.1 ∧ e.1 ≤ 6) ∨ (al = true ∧ (e.1 = 2 ∨ e.1 = 3))
    · rw [if_pos c]
      obtain ⟨i1, i2, i3, i4⟩ := cs_inv (al := al) st (x.1 + 1, cdU x.2 x.1 (e.1, 0)) (fun y hy => h y (List.mem_cons_of_mem _ hy))
      have i3 : (csR al st (x.1 + 1, cdU x.2 x.1 (e.1, 0))).2.1 + (csR al st (x.1 + 1, cdU x.2 x.1 (e.1, 0))).1.length = x.1 + 1 + st.length := i3
      refine ⟨?_, i2, by show _ = x.1 + (st.length + 1); omega, by show _ ≤ st.length + 1; omega⟩
      rw [i1]
      show n14 st = (if e.1 = 14 then 1 else 0) + n14 st
      rw [if_neg (by omega)]
      omega
    · rw [if_neg c]
      exact ⟨rfl, h, rfl, Nat.le_refl _⟩
theorem fc_14 {c : Nat → Nat} : ∀ (k : Nat) (st : WK) (q : TS) {r : Nat × WK × TS}, fcR c k st q = .inr r → r.1 + n14 r.2.1 = k + n14 st
  | 0, st, q, r, h => by
    unfold fcR at h
    by_cases c1 : c q.1 = 91
    · rw [if_pos c1] at h
      cases h
    · rw [if_neg c1] at h
      cases ha : atL c q with
      | inl x => rw [ha] at h; cases h
      | inr a => rw [ha] at h; rw [← Sum.inr.inj h]
  | k + 1, st, q, r, h => by
    unfold fcR at h
    by_cases c1 : c q.1 = 91
    · rw [if_pos c1] at h
      have h : fcR c k ((14, 0) :: st) (q.1 + 1, q.2) = .inr r := h
      have e1 := fc_14 k ((14, 0) :: st) (q.1 + 1, q.2) h
      have e2 : n14 ((14, 0) :: st) = 1 + n14 st := rfl
      omega
    · rw [if_neg c1] at h
      cases ha : atL c q with
      | inl x => rw [ha] at h; cases h
      | inr a => rw [ha] at h; rw [← Sum.inr.inj h]
theorem okV_app {st B : WK} (h : okW st) (hB : okV B) : okV (st ++ B) := fun e he => by
  rcases List.mem_append.mp he with z | z
  · obtain ⟨a, b⟩ := h e z
    exact ⟨by omega, by omega⟩
  · exact hB e z
theorem fc_al {c : Nat → Nat} {k : Nat} {st : WK} {q : TS} {x : Int32} (c1 : ¬ c q.1 = 91) (h : atL c q = .inl x) : fcR c k st q = .inl x := by
  cases k with
  | zero => unfold fcR; rw [if_neg c1, h]
  | succ k => unfold fcR; rw [if_neg c1, h]
theorem fc_ar {c : Nat → Nat} {k : Nat} {st : WK} {q r : TS} (c1 : ¬ c q.1 = 91) (h : atL c q = .inr r) : fcR c k st q = .inr (k, st, r) := by
  cases k with
  | zero => unfold fcR; rw [if_neg c1, h]
  | succ k => unfold fcR; rw [if_neg c1, h]
section PLawM3
variable {g : GL} {d n : Nat} {I : IM} {J : JM} {R : RM} {Q : PQ} {t c : Nat → Nat} {L k : Nat} {B : WK} {q : TS}
set_option maxRecDepth 100000 in
set_option maxHeartbeats 2000000 in
theorem m_readsFactor (hd : 3 ≤ d) (hN : 152 ≤ n) (hR : RS R) (hc : okc t L c) (hL : L ≤ 240) : ∀ (k : Nat) (st : WK) (q : TS) (I : IM), k ≤ 6 → hdB L B.length st q → CLm t L I → PLm k (st ++ B) q I → OFm B I J R n Q (fcR c k st q) → E g mX12_readsFactor d 0 0 0 [.ref 114, jk] [] n I J R Q := by
  intro k
  induction k with
  | zero =>
    intro st q I hk hb hC hP hQ
    have hb0 := id hb
    obtain ⟨b1, b2, b3⟩ := hb0
    have hl : (st ++ B).length < 260 := by rw [List.length_append]; omega
    by_cases c1 : c q.1 = 91
    · have ef : fcR c 0 st q = .inl (flt 5 q.1) := by
        unfold fcR
        rw [if_pos c1]
      refine E_aload_n dX12_readsFactor_0 rfl ?_
      refine E_callV (As := []) (ci := 11) (kc' := 0) (ks' := 0) (kc := 0) (ks := 0) dX12_readsFactor_1 ok_X12_here w_X12_142 i_X12_here s_X12_here rfl (by decide) rfl (Nat.lt_of_lt_of_le (by decide) hN) rfl rfl rfl (Nat.le_of_ble_eq_true rfl) (Nat.le_of_ble_eq_true rfl) (by omega) (m_here (d := 0) hN hR hc (Nat.le_trans hL (by decide)) hC.1 hC.2 (p := q.1) (by omega) (hP.1) ?_)
      refine E_bp (nI 91) dX12_readsFactor_4 (by decide) ?_
      refine E_icmp_ne (tgt := 20) dX12_readsFactor_6 (by decide) (fun cw6 => by first | exact absurd cw6 ((ch_eq (k := 91) (by decide)).mpr c1) | exact absurd ((ch_eq (k := 91) (by decide)).mpr c1) cw6) (fun cw6 => ?_)
      refine E_aload_n dX12_readsFactor_9 rfl ?_
      refine E_bp (nI 14) dX12_readsFactor_10 (by decide) ?_
      refine E_callV (As := [_]) (ci := 11) (kc' := 0) (ks' := 0) (kc := 0) (ks := 0) dX12_readsFactor_12 ok_X12_opens w_X12_177 i_X12_opens s_X12_opens rfl (by decide) rfl (Nat.lt_of_lt_of_le (by decide) hN) rfl rfl rfl (Nat.le_of_ble_eq_true rfl) (Nat.le_of_ble_eq_true rfl) (by omega) (m_opens0 (d := 1) (K := st ++ B) (q := q) (by decide) hN hR hP ?_)
      refine E_zN_ne (a := 0) (tgt := 0) dX12_readsFactor_15 (by decide) (by decide) (fun cw15 => absurd cw15 (by omega)) (fun cw15 => ?_)
      refine E_ic (nI 0) dX12_readsFactor_18 (by decide) ?_
      exact E_zret dX12_readsFactor_19 rfl (by decide) ((hQ.rw ef) _ (FLm.up I _ (by decide)) (up2_s _ _ _ _))
    · skip
      refine E_aload_n dX12_readsFactor_0 rfl ?_
      refine E_callV (As := []) (ci := 11) (kc' := 0) (ks' := 0) (kc := 0) (ks := 0) dX12_readsFactor_1 ok_X12_here w_X12_142 i_X12_here s_X12_here rfl (by decide) rfl (Nat.lt_of_lt_of_le (by decide) hN) rfl rfl rfl (Nat.le_of_ble_eq_true rfl) (Nat.le_of_ble_eq_true rfl) (by omega) (m_here (d := 0) hN hR hc (Nat.le_trans hL (by decide)) hC.1 hC.2 (p := q.1) (by omega) (hP.1) ?_)
      refine E_bp (nI 91) dX12_readsFactor_4 (by decide) ?_
      refine E_icmp_ne (tgt := 20) dX12_readsFactor_6 (by decide) (fun cw6 => ?_) (fun cw6 => by first | exact absurd cw6 ((fun z => c1 ((ch_eq (k := 91) (by decide)).mp z))) | exact absurd ((fun z => c1 ((ch_eq (k := 91) (by decide)).mp z))) cw6)
      refine E_aload_n dX12_readsFactor_20 rfl ?_
      refine E_callV (As := []) (ci := 11) (kc' := 0) (ks' := 0) (kc := 0) (ks := 0) dX12_readsFactor_21 ok_X12_isDigit w_X12_156 i_X12_isDigit s_X12_isDigit rfl (by decide) rfl (Nat.lt_of_lt_of_le (by decide) hN) rfl rfl rfl (Nat.le_of_ble_eq_true rfl) (Nat.le_of_ble_eq_true rfl) (by omega) (m_isDigitL (d := 0) hN hR hc hL hC (p := q.1) (by omega) hP.1 (fun y48 y57 => ?_) (fun yn => ?_))
      · skip
        refine E_zN_eq (a := 1) (tgt := 47) dX12_readsFactor_24 (by decide) (by decide) (fun cw24 => absurd cw24 (by omega)) (fun cw24 => ?_)
        refine E_aload_n dX12_readsFactor_27 rfl ?_
        refine E_callV (As := []) (ci := 11) (kc' := 0) (ks' := 0) (kc := 0) (ks := 0) dX12_readsFactor_28 ok_X12_readsNumber w_X12_181 i_X12_readsNumber s_X12_readsNumber rfl (by decide) rfl (Nat.lt_of_lt_of_le (by decide) hN) rfl rfl rfl (Nat.le_of_ble_eq_true rfl) (Nat.le_of_ble_eq_true rfl) (by omega) (m_readsNumber (d := 2) (q := q) (by decide) hN hR hc hL hC hb.1 hP (fun z I2 f2 e2 => ?_) (fun z I2 f2 p2 v2 => ?_))
        · have ea : atL c q = .inl (flt 2 (dgL c 5 q.1 0).1) := (if_neg (kn_dig ⟨y48, y57⟩)).trans ((if_pos ⟨y48, y57⟩).trans (if_pos z))
          refine E_zN_ne (a := 0) (tgt := 36) dX12_readsFactor_31 (by decide) (by decide) (fun cw31 => absurd cw31 (by omega)) (fun cw31 => ?_)
          refine E_ic (nI 0) dX12_readsFactor_34 (by decide) ?_
          exact E_zret dX12_readsFactor_35 rfl (by decide) ((hQ.rw (fc_al c1 ea)) I2 f2 e2)
        · have ea : atL c q = .inr ((dgL c 5 q.1 0).1, q.2.1 + 1, cdU q.2.2 q.2.1 (0, (dgL c 5 q.1 0).2)) := (if_neg (kn_dig ⟨y48, y57⟩)).trans ((if_pos ⟨y48, y57⟩).trans (if_neg z))
          refine E_zN_ne (a := 1) (tgt := 36) dX12_readsFactor_31 (by decide) (by decide) (fun cw31 => ?_) (fun cw31 => absurd cw31 (by omega))
          refine E_aload_n dX12_readsFactor_36 rfl ?_
          refine E_ic (nI 0) dX12_readsFactor_37 (by decide) ?_
          refine E_aload_n dX12_readsFactor_38 rfl ?_
          refine E_getI dX12_readsFactor_39 f_X12_153 rfl (Nat.lt_of_lt_of_le (by decide) hN) rfl ?_
          refine E.top (v2) ?_
          refine E_callV (As := [_, _]) (ci := 11) (kc' := 0) (ks' := 0) (kc := 0) (ks := 0) dX12_readsFactor_42 ok_X12_notes w_X12_173 i_X12_notes s_X12_notes rfl (by decide) rfl (Nat.lt_of_lt_of_le (by decide) hN) rfl rfl rfl (Nat.le_of_ble_eq_true rfl) (Nat.le_of_ble_eq_true rfl) (by omega) (m_notes (d := 0) (op := 0) (v := (dgL c 5 q.1 0).2) (q := ((dgL c 5 q.1 0).1, q.2.1, q.2.2)) hN hR (by show q.2.1 < 260; omega) p2 (fun I3 f3 p3 => ?_))
          refine E_ic (nI 1) dX12_readsFactor_45 (by decide) ?_
          exact E_zret dX12_readsFactor_46 rfl (by decide) ((hQ.rw (fc_ar c1 ea)) I3 (f2.trans f3) p3)
      · skip
        refine E_zN_eq (a := 0) (tgt := 47) dX12_readsFactor_24 (by decide) (by decide) (fun cw24 => ?_) (fun cw24 => absurd cw24 (by omega))
        refine E_aload_n dX12_readsFactor_47 rfl ?_
        refine E_callV (As := []) (ci := 11) (kc' := 0) (ks' := 0) (kc := 0) (ks := 0) dX12_readsFactor_48 ok_X12_here w_X12_142 i_X12_here s_X12_here rfl (by decide) rfl (Nat.lt_of_lt_of_le (by decide) hN) rfl rfl rfl (Nat.le_of_ble_eq_true rfl) (Nat.le_of_ble_eq_true rfl) (by omega) (m_here (d := 0) hN hR hc (Nat.le_trans hL (by decide)) hC.1 hC.2 (p := q.1) (by omega) (hP.1) ?_)
        refine E_callS (As := [_]) (kc' := 0) (ks' := 0) (kc := 0) (ks := 0) dX12_readsFactor_51 ok_X12_factOf w_X12_184 st_X12_factOf rfl rfl rfl (Nat.le_of_ble_eq_true rfl) (Nat.le_of_ble_eq_true rfl) (by omega) (m_factOf (d := 0) (x := c q.1) ?_)
        by_cases c2 : knL (c q.1) < 9
        · rw [if_pos c2]
          have ea : atL c q = .inr (q.1 + 1, q.2.1 + 1, cdU q.2.2 q.2.1 (1, knL (c q.1))) := if_pos c2
          refine E_istore_n dX12_readsFactor_54 (Nat.le_of_ble_eq_true rfl) ?_
          refine E_iload_n dX12_readsFactor_55 rfl ?_
          refine E_ic (-1) dX12_readsFactor_56 (by decide) ?_
          refine E_icmp_ne (tgt := 70) dX12_readsFactor_57 (by decide) (fun cw57 => ?_) (fun cw57 => by first | exact absurd cw57 (nI_m1 (by omega)) | exact absurd (nI_m1 (by omega)) cw57)
          refine E_aload_n dX12_readsFactor_70 rfl ?_
          refine E_ic (nI 1) dX12_readsFactor_71 (by decide) ?_
          refine E_iload_n dX12_readsFactor_72 rfl ?_
          refine E_callV (As := [_, _]) (ci := 11) (kc' := 0) (ks' := 0) (kc := 0) (ks := 0) dX12_readsFactor_73 ok_X12_notes w_X12_173 i_X12_notes s_X12_notes rfl (by decide) rfl (Nat.lt_of_lt_of_le (by decide) hN) rfl rfl rfl (Nat.le_of_ble_eq_true rfl) (Nat.le_of_ble_eq_true rfl) (by omega) (m_notes (d := 0) (op := 1) (v := knL (c q.1)) (q := q) hN hR (by omega) hP (fun I3 f3 p3 => ?_))
          refine E_aload_n dX12_readsFactor_76 rfl ?_
          refine E_aload_n dX12_readsFactor_77 rfl ?_
          refine E_getI dX12_readsFactor_78 f_X12_136 rfl (Nat.lt_of_lt_of_le (by decide) hN) rfl ?_
          refine E.top (p3.1) ?_
          refine E_ic (nI 1) dX12_readsFactor_81 (by decide) ?_
          refine E_iadd dX12_readsFactor_82 ?_
          refine E.top (nI_add (q.1) 1) ?_
          refine E_putI dX12_readsFactor_83 f_X12_136 rfl (Nat.lt_of_lt_of_le (by decide) hN) rfl ?_
          refine E_ic (nI 1) dX12_readsFactor_86 (by decide) ?_
          exact E_zret dX12_readsFactor_87 rfl (by decide) ((hQ.rw (fc_ar c1 ea)) _ (f3.trans (FLm.up I3 _ (by decide))) (p3.at (q.1 + 1)))
        · rw [if_neg c2]
          have ea : atL c q = .inl (flt 1 q.1) := (if_neg c2).trans (if_neg yn)
          refine E_istore_n dX12_readsFactor_54 (Nat.le_of_ble_eq_true rfl) ?_
          refine E_iload_n dX12_readsFactor_55 rfl ?_
          refine E_ic (-1) dX12_readsFactor_56 (by decide) ?_
          refine E_icmp_ne (tgt := 70) dX12_readsFactor_57 (by decide) (fun cw57 => by first | exact absurd cw57 (rfl) | exact absurd (rfl) cw57) (fun cw57 => ?_)
          refine E_aload_n dX12_readsFactor_60 rfl ?_
          refine E_ic (nI 1) dX12_readsFactor_61 (by decide) ?_
          refine E_aload_n dX12_readsFactor_62 rfl ?_
          refine E_getI dX12_readsFactor_63 f_X12_136 rfl (Nat.lt_of_lt_of_le (by decide) hN) rfl ?_
          refine E.top (hP.1) ?_
          refine E_callV (As := [_, _]) (ci := 11) (kc' := 0) (ks' := 0) (kc := 0) (ks := 0) dX12_readsFactor_66 ok_X12_wrongAt w_X12_149 i_X12_wrongAt s_X12_wrongAt rfl (by decide) rfl (Nat.lt_of_lt_of_le (by decide) hN) rfl rfl rfl (Nat.le_of_ble_eq_true rfl) (Nat.le_of_ble_eq_true rfl) (by omega) (m_wrongAt (d := 0) (k := 1) (q := q.1) hN ?_)
          exact E_zret dX12_readsFactor_69 rfl (by decide) ((hQ.rw (fc_al c1 ea)) _ (FLm.up I _ (by decide)) (up2_s _ _ _ _))
  | succ k ih =>
    intro st q I hk hb hC hP hQ
    have hb0 := id hb
    obtain ⟨b1, b2, b3⟩ := hb0
    have hl : (st ++ B).length < 260 := by rw [List.length_append]; omega
    by_cases c1 : c q.1 = 91
    · have ef : fcR c (k + 1) st q = fcR c k ((14, 0) :: st) (q.1 + 1, q.2) := by
        conv => lhs; unfold fcR
        rw [if_pos c1]
      refine E_aload_n dX12_readsFactor_0 rfl ?_
      refine E_callV (As := []) (ci := 11) (kc' := 0) (ks' := 0) (kc := 0) (ks := 0) dX12_readsFactor_1 ok_X12_here w_X12_142 i_X12_here s_X12_here rfl (by decide) rfl (Nat.lt_of_lt_of_le (by decide) hN) rfl rfl rfl (Nat.le_of_ble_eq_true rfl) (Nat.le_of_ble_eq_true rfl) (by omega) (m_here (d := 0) hN hR hc (Nat.le_trans hL (by decide)) hC.1 hC.2 (p := q.1) (by omega) (hP.1) ?_)
      refine E_bp (nI 91) dX12_readsFactor_4 (by decide) ?_
      refine E_icmp_ne (tgt := 20) dX12_readsFactor_6 (by decide) (fun cw6 => by first | exact absurd cw6 ((ch_eq (k := 91) (by decide)).mpr c1) | exact absurd ((ch_eq (k := 91) (by decide)).mpr c1) cw6) (fun cw6 => ?_)
      refine E_aload_n dX12_readsFactor_9 rfl ?_
      refine E_bp (nI 14) dX12_readsFactor_10 (by decide) ?_
      refine E_callV (As := [_]) (ci := 11) (kc' := 0) (ks' := 0) (kc := 0) (ks := 0) dX12_readsFactor_12 ok_X12_opens w_X12_177 i_X12_opens s_X12_opens rfl (by decide) rfl (Nat.lt_of_lt_of_le (by decide) hN) rfl rfl rfl (Nat.le_of_ble_eq_true rfl) (Nat.le_of_ble_eq_true rfl) (by omega) (m_opens1 (d := 0) (k := k) (x := 14) (K := st ++ B) (q := q) (by omega) hN hR hl hP (fun I2 f2 p2 => ?_))
      refine E_zN_ne (a := 1) (tgt := 0) dX12_readsFactor_15 (by decide) (by decide) (fun cw15 => ?_) (fun cw15 => absurd cw15 (by omega))
      have hp := hc.lt (p := q.1) (by omega)
      exact ih ((14, 0) :: st) (q.1 + 1, q.2) I2 (by omega) ⟨hp, by show q.2.1 + (st.length + 1) ≤ q.1 + 1; omega, by show st.length + 1 + B.length ≤ q.1 + 1; omega⟩ (hC.keep f2) p2 ((OFm.from f2 hQ).rw ef)
    · skip
      refine E_aload_n dX12_readsFactor_0 rfl ?_
      refine E_callV (As := []) (ci := 11) (kc' := 0) (ks' := 0) (kc := 0) (ks := 0) dX12_readsFactor_1 ok_X12_here w_X12_142 i_X12_here s_X12_here rfl (by decide) rfl (Nat.lt_of_lt_of_le (by decide) hN) rfl rfl rfl (Nat.le_of_ble_eq_true rfl) (Nat.le_of_ble_eq_true rfl) (by omega) (m_here (d := 0) hN hR hc (Nat.le_trans hL (by decide)) hC.1 hC.2 (p := q.1) (by omega) (hP.1) ?_)
      refine E_bp (nI 91) dX12_readsFactor_4 (by decide) ?_
      refine E_icmp_ne (tgt := 20) dX12_readsFactor_6 (by decide) (fun cw6 => ?_) (fun cw6 => by first | exact absurd cw6 ((fun z => c1 ((ch_eq (k := 91) (by decide)).mp z))) | exact absurd ((fun z => c1 ((ch_eq (k := 91) (by decide)).mp z))) cw6)
      refine E_aload_n dX12_readsFactor_20 rfl ?_
      refine E_callV (As := []) (ci := 11) (kc' := 0) (ks' := 0) (kc := 0) (ks := 0) dX12_readsFactor_21 ok_X12_isDigit w_X12_156 i_X12_isDigit s_X12_isDigit rfl (by decide) rfl (Nat.lt_of_lt_of_le (by decide) hN) rfl rfl rfl (Nat.le_of_ble_eq_true rfl) (Nat.le_of_ble_eq_true rfl) (by omega) (m_isDigitL (d := 0) hN hR hc hL hC (p := q.1) (by omega) hP.1 (fun y48 y57 => ?_) (fun yn => ?_))
      · skip
        refine E_zN_eq (a := 1) (tgt := 47) dX12_readsFactor_24 (by decide) (by decide) (fun cw24 => absurd cw24 (by omega)) (fun cw24 => ?_)
        refine E_aload_n dX12_readsFactor_27 rfl ?_
        refine E_callV (As := []) (ci := 11) (kc' := 0) (ks' := 0) (kc := 0) (ks := 0) dX12_readsFactor_28 ok_X12_readsNumber w_X12_181 i_X12_readsNumber s_X12_readsNumber rfl (by decide) rfl (Nat.lt_of_lt_of_le (by decide) hN) rfl rfl rfl (Nat.le_of_ble_eq_true rfl) (Nat.le_of_ble_eq_true rfl) (by omega) (m_readsNumber (d := 2) (q := q) (by decide) hN hR hc hL hC hb.1 hP (fun z I2 f2 e2 => ?_) (fun z I2 f2 p2 v2 => ?_))
        · have ea : atL c q = .inl (flt 2 (dgL c 5 q.1 0).1) := (if_neg (kn_dig ⟨y48, y57⟩)).trans ((if_pos ⟨y48, y57⟩).trans (if_pos z))
          refine E_zN_ne (a := 0) (tgt := 36) dX12_readsFactor_31 (by decide) (by decide) (fun cw31 => absurd cw31 (by omega)) (fun cw31 => ?_)
          refine E_ic (nI 0) dX12_readsFactor_34 (by decide) ?_
          exact E_zret dX12_readsFactor_35 rfl (by decide) ((hQ.rw (fc_al c1 ea)) I2 f2 e2)
        · have ea : atL c q = .inr ((dgL c 5 q.1 0).1, q.2.1 + 1, cdU q.2.2 q.2.1 (0, (dgL c 5 q.1 0).2)) := (if_neg (kn_dig ⟨y48, y57⟩)).trans ((if_pos ⟨y48, y57⟩).trans (if_neg z))
          refine E_zN_ne (a := 1) (tgt := 36) dX12_readsFactor_31 (by decide) (by decide) (fun cw31 => ?_) (fun cw31 => absurd cw31 (by omega))
          refine E_aload_n dX12_readsFactor_36 rfl ?_
          refine E_ic (nI 0) dX12_readsFactor_37 (by decide) ?_
          refine E_aload_n dX12_readsFactor_38 rfl ?_
          refine E_getI dX12_readsFactor_39 f_X12_153 rfl (Nat.lt_of_lt_of_le (by decide) hN) rfl ?_
          refine E.top (v2) ?_
          refine E_callV (As := [_, _]) (ci := 11) (kc' := 0) (ks' := 0) (kc := 0) (ks := 0) dX12_readsFactor_42 ok_X12_notes w_X12_173 i_X12_notes s_X12_notes rfl (by decide) rfl (Nat.lt_of_lt_of_le (by decide) hN) rfl rfl rfl (Nat.le_of_ble_eq_true rfl) (Nat.le_of_ble_eq_true rfl) (by omega) (m_notes (d := 0) (op := 0) (v := (dgL c 5 q.1 0).2) (q := ((dgL c 5 q.1 0).1, q.2.1, q.2.2)) hN hR (by show q.2.1 < 260; omega) p2 (fun I3 f3 p3 => ?_))
          refine E_ic (nI 1) dX12_readsFactor_45 (by decide) ?_
          exact E_zret dX12_readsFactor_46 rfl (by decide) ((hQ.rw (fc_ar c1 ea)) I3 (f2.trans f3) p3)
      · skip
        refine E_zN_eq (a := 0) (tgt := 47) dX12_readsFactor_24 (by decide) (by decide) (fun cw24 => ?_) (fun cw24 => absurd cw24 (by omega))
        refine E_aload_n dX12_readsFactor_47 rfl ?_
        refine E_callV (As := []) (ci := 11) (kc' := 0) (ks' := 0) (kc := 0) (ks := 0) dX12_readsFactor_48 ok_X12_here w_X12_142 i_X12_here s_X12_here rfl (by decide) rfl (Nat.lt_of_lt_of_le (by decide) hN) rfl rfl rfl (Nat.le_of_ble_eq_true rfl) (Nat.le_of_ble_eq_true rfl) (by omega) (m_here (d := 0) hN hR hc (Nat.le_trans hL (by decide)) hC.1 hC.2 (p := q.1) (by omega) (hP.1) ?_)
        refine E_callS (As := [_]) (kc' := 0) (ks' := 0) (kc := 0) (ks := 0) dX12_readsFactor_51 ok_X12_factOf w_X12_184 st_X12_factOf rfl rfl rfl (Nat.le_of_ble_eq_true rfl) (Nat.le_of_ble_eq_true rfl) (by omega) (m_factOf (d := 0) (x := c q.1) ?_)
        by_cases c2 : knL (c q.1) < 9
        · rw [if_pos c2]
          have ea : atL c q = .inr (q.1 + 1, q.2.1 + 1, cdU q.2.2 q.2.1 (1, knL (c q.1))) := if_pos c2
          refine E_istore_n dX12_readsFactor_54 (Nat.le_of_ble_eq_true rfl) ?_
          refine E_iload_n dX12_readsFactor_55 rfl ?_
          refine E_ic (-1) dX12_readsFactor_56 (by decide) ?_
          refine E_icmp_ne (tgt := 70) dX12_readsFactor_57 (by decide) (fun cw57 => ?_) (fun cw57 => by first | exact absurd cw57 (nI_m1 (by omega)) | exact absurd (nI_m1 (by omega)) cw57)
          refine E_aload_n dX12_readsFactor_70 rfl ?_
          refine E_ic (nI 1) dX12_readsFactor_71 (by decide) ?_
          refine E_iload_n dX12_readsFactor_72 rfl ?_
          refine E_callV (As := [_, _]) (ci := 11) (kc' := 0) (ks' := 0) (kc := 0) (ks := 0) dX12_readsFactor_73 ok_X12_notes w_X12_173 i_X12_notes s_X12_notes rfl (by decide) rfl (Nat.lt_of_lt_of_le (by decide) hN) rfl rfl rfl (Nat.le_of_ble_eq_true rfl) (Nat.le_of_ble_eq_true rfl) (by omega) (m_notes (d := 0) (op := 1) (v := knL (c q.1)) (q := q) hN hR (by omega) hP (fun I3 f3 p3 => ?_))
          refine E_aload_n dX12_readsFactor_76 rfl ?_
          refine E_aload_n dX12_readsFactor_77 rfl ?_
          refine E_getI dX12_readsFactor_78 f_X12_136 rfl (Nat.lt_of_lt_of_le (by decide) hN) rfl ?_
          refine E.top (p3.1) ?_
          refine E_ic (nI 1) dX12_readsFactor_81 (by decide) ?_
          refine E_iadd dX12_readsFactor_82 ?_
          refine E.top (nI_add (q.1) 1) ?_
          refine E_putI dX12_readsFactor_83 f_X12_136 rfl (Nat.lt_of_lt_of_le (by decide) hN) rfl ?_
          refine E_ic (nI 1) dX12_readsFactor_86 (by decide) ?_
          exact E_zret dX12_readsFactor_87 rfl (by decide) ((hQ.rw (fc_ar c1 ea)) _ (f3.trans (FLm.up I3 _ (by decide))) (p3.at (q.1 + 1)))
        · rw [if_neg c2]
          have ea : atL c q = .inl (flt 1 q.1) := (if_neg c2).trans (if_neg yn)
          refine E_istore_n dX12_readsFactor_54 (Nat.le_of_ble_eq_true rfl) ?_
          refine E_iload_n dX12_readsFactor_55 rfl ?_
          refine E_ic (-1) dX12_readsFactor_56 (by decide) ?_
          refine E_icmp_ne (tgt := 70) dX12_readsFactor_57 (by decide) (fun cw57 => by first | exact absurd cw57 (rfl) | exact absurd (rfl) cw57) (fun cw57 => ?_)
          refine E_aload_n dX12_readsFactor_60 rfl ?_
          refine E_ic (nI 1) dX12_readsFactor_61 (by decide) ?_
          refine E_aload_n dX12_readsFactor_62 rfl ?_
          refine E_getI dX12_readsFactor_63 f_X12_136 rfl (Nat.lt_of_lt_of_le (by decide) hN) rfl ?_
          refine E.top (hP.1) ?_
          refine E_callV (As := [_, _]) (ci := 11) (kc' := 0) (ks' := 0) (kc := 0) (ks := 0) dX12_readsFactor_66 ok_X12_wrongAt w_X12_149 i_X12_wrongAt s_X12_wrongAt rfl (by decide) rfl (Nat.lt_of_lt_of_le (by decide) hN) rfl rfl rfl (Nat.le_of_ble_eq_true rfl) (Nat.le_of_ble_eq_true rfl) (by omega) (m_wrongAt (d := 0) (k := 1) (q := q.1) hN ?_)
          exact E_zret dX12_readsFactor_69 rfl (by decide) ((hQ.rw (fc_al c1 ea)) _ (FLm.up I _ (by decide)) (up2_s _ _ _ _))
end PLawM3
