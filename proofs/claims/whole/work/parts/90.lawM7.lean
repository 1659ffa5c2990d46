/-! ===== the law's rules, as the reference reads them ===== -/
def fkP (j : Nat) : Prop := j < 8 ∨ j = 9 ∨ 15 < j
def FQm (I I' : IM) : Prop := (∀ x, x ≠ 114 → (x < 122 ∨ 127 < x) → I' x = I x) ∧ ∀ j, fkP j → I' 114 j = I 114 j
theorem FQm.refl (I : IM) : FQm I I := ⟨fun _ _ _ => rfl, fun _ _ => rfl⟩
theorem FQm.trans {I I' I2 : IM} (h : FQm I I') (h2 : FQm I' I2) : FQm I I2 := ⟨fun x a b => (h2.1 x a b).trans (h.1 x a b), fun j a => (h2.2 j a).trans (h.2 j a)⟩
theorem FQm.of {I I' : IM} (h : FLm I I') : FQm I I' := ⟨fun x a b => h.1 x a (by omega) (by omega), fun j hj => h.2 j (by unfold fkP at hj; unfold fkQ; omega)⟩
theorem FQm.up (I : IM) {k : Nat} (v : Int32) (h : k = 8 ∨ (10 ≤ k ∧ k ≤ 15)) : FQm I (up2 I 114 k v) := ⟨fun x a _ => up2_o I 114 k v x a, fun j hj => up2_k I v (by unfold fkP at hj; omega)⟩
theorem FQm.row (I : IM) {a : Nat} (k : Nat) (v : Int32) (h : 122 ≤ a ∧ a ≤ 127) : FQm I (up2 I a k v) := ⟨fun x _ b => up2_o I a k v x (by omega), fun j _ => congrFun (up2_o I a k v 114 (by omega)) j⟩
theorem CLm.keepQ {t : Nat → Nat} {L : Nat} {I I' : IM} (h : CLm t L I) (f : FQm I I') : CLm t L I' := ⟨(f.2 9 (by unfold fkP; omega)).trans h.1, fun j hj => by rw [f.1 121 (by decide) (by decide)]; exact h.2 j hj⟩
def PQm (q : TS) (I : IM) : Prop := I 114 8 = nI q.1 ∧ I 114 13 = nI q.2.1 ∧ ∀ i, i < q.2.1 → I 122 i = nI (1048576 * (q.2.2 i).1 + (q.2.2 i).2)
theorem PLm.q {k : Nat} {K : WK} {q : TS} {I : IM} (h : PLm k K q I) : PQm q I := ⟨h.1, h.2.1, h.2.2.1⟩
theorem PQm.row {q : TS} {I : IM} (h : PQm q I) {a : Nat} (k : Nat) (v : Int32) (ha : 124 ≤ a) : PQm q (up2 I a k v) := ⟨(congrFun (up2_o I a k v 114 (by omega)) 8).trans h.1, (congrFun (up2_o I a k v 114 (by omega)) 13).trans h.2.1, fun i hi => (congrFun (up2_o I a k v 122 (by omega)) i).trans (h.2.2 i hi)⟩
theorem PQm.fld {q : TS} {I : IM} (h : PQm q I) {k : Nat} (v : Int32) (hk : k ≠ 8 ∧ k ≠ 13) : PQm q (up2 I 114 k v) := ⟨(up2_k I v (by omega)).trans h.1, (up2_k I v (by omega)).trans h.2.1, fun i hi => (congrFun (up2_o I 114 k v 122 (by decide)) i).trans (h.2.2 i hi)⟩
theorem PQm.at {q : TS} {I : IM} (h : PQm q I) (p : Nat) : PQm (p, q.2) (up2 I 114 8 (nI p)) := ⟨up2_s _ _ _ _, (up2_k I _ (by decide)).trans h.2.1, fun i hi => (congrFun (up2_o I 114 8 _ 122 (by decide)) i).trans (h.2.2 i hi)⟩
theorem PQm.z {q : TS} {I : IM} (h : PQm q I) : PLm 6 [] q (up2 (up2 I 114 12 (nI 0)) 114 14 (nI 0)) := ⟨(up2_k _ _ (by decide)).trans ((up2_k _ _ (by decide)).trans h.1), (up2_k _ _ (by decide)).trans ((up2_k _ _ (by decide)).trans h.2.1), fun i hi => (congrFun (up2_o _ 114 _ _ 122 (by decide)) i).trans ((congrFun (up2_o _ 114 _ _ 122 (by decide)) i).trans (h.2.2 i hi)), (up2_k _ _ (by decide)).trans (up2_s _ _ _ _), up2_s _ _ _ _, trivial⟩
theorem PLm.row {k : Nat} {q : TS} {I : IM} (h : PLm k [] q I) {a : Nat} (j : Nat) (v : Int32) (ha : 124 ≤ a) : PLm k [] q (up2 I a j v) := ⟨(congrFun (up2_o I a j v 114 (by omega)) 8).trans h.1, (congrFun (up2_o I a j v 114 (by omega)) 13).trans h.2.1, fun i hi => (congrFun (up2_o I a j v 122 (by omega)) i).trans (h.2.2.1 i hi), (congrFun (up2_o I a j v 114 (by omega)) 12).trans h.2.2.2.1, (congrFun (up2_o I a j v 114 (by omega)) 14).trans h.2.2.2.2.1, trivial⟩
def LDm (w : LWD) (I : IM) : Prop := I 114 15 = nI w.1 ∧ ∀ r, r < w.1 → I 124 r = nI (w.2.1 r) ∧ I 125 r = nI (w.2.2.1 r) ∧ I 126 r = nI (w.2.2.2.1 r) ∧ I 127 r = nI (w.2.2.2.2.1 r)
theorem LDm.keep {w : LWD} {I I' : IM} (h : LDm w I) (f : FLm I I') : LDm w I' := by
  unfold LDm
  rw [f.2 15 (by unfold fkQ; omega), f.1 124 (by decide) (by decide) (by decide), f.1 125 (by decide) (by decide) (by decide), f.1 126 (by decide) (by decide) (by decide), f.1 127 (by decide) (by decide) (by decide)]
  exact h
theorem rl_in {x : Nat} (h : ¬ rlP x = 5) : x = 103 ∨ x = 102 ∨ x = 97 ∨ x = 100 ∨ x = 120 := by
  apply Decidable.byContradiction
  intro z
  apply h
  unfold rlP
  rw [if_neg (by omega), if_neg (by omega), if_neg (by omega), if_neg (by omega), if_neg (by omega)]
theorem rl_no {x : Nat} (h : rlP x = 5) : ¬ x = 103 ∧ ¬ x = 102 ∧ ¬ x = 97 ∧ ¬ x = 100 ∧ ¬ x = 120 := by
  refine ⟨fun z => ?_, fun z => ?_, fun z => ?_, fun z => ?_, fun z => ?_⟩ <;> (subst z; revert h; decide)
section PLawM7
variable {g : GL} {d n : Nat} {I : IM} {J : JM} {R : RM} {Q : PQ} {t c : Nat → Nat} {L p : Nat} {w : LWD}
set_option maxRecDepth 100000 in
set_option maxHeartbeats 2000000 in
theorem m_readsRule (hd : 7 ≤ d) (hN : 152 ≤ n) (hR : RS R) (hc : okc t L c) (hL : L ≤ 240) (hC : CLm t L I) (hp0 : p ≤ L) (hw : LWG w p) (hP : PQm (p, wS w, wC w) I) (hD : LDm w I) (hQ0 : ∀ x, ruL c p w = .inl x → ∀ I' : IM, FQm I I' → I' 114 10 = x → Q (some (.int 0)) n I' J R) (hQ1 : ∀ r, ruL c p w = .inr r → ∀ I' : IM, FQm I I' → PQm (r.1, wS r.2, wC r.2) I' → LDm r.2 I' → Q (some (.int 1)) n I' J R) : E g mX12_readsRule d 0 0 0 (ent 2 [.ref 114]) [] n I J R Q := by
  have w16 : w.1 ≤ 16 := hw.1
  by_cases c1 : rlP (c p) = 5
  · have nn := rl_no c1
    refine E_aload_n dX12_readsRule_0 rfl ?_
    refine E_callV (As := []) (ci := 11) (kc' := 0) (ks' := 0) (kc := 0) (ks := 0) dX12_readsRule_1 ok_X12_here w_X12_142 i_X12_here s_X12_here rfl (by decide) rfl (Nat.lt_of_lt_of_le (by decide) hN) rfl rfl rfl (Nat.le_of_ble_eq_true rfl) (Nat.le_of_ble_eq_true rfl) (by omega) (m_here (d := 0) hN hR hc (Nat.le_trans hL (by decide)) hC.1 hC.2 (p := p) (by omega) hP.1 ?_)
    refine E_istore_n dX12_readsRule_4 (Nat.le_of_ble_eq_true rfl) ?_
    refine E_iload_n dX12_readsRule_5 rfl ?_
    refine E_bp (nI 103) dX12_readsRule_6 (by decide) ?_
    refine E_icmp_eq (tgt := 45) dX12_readsRule_8 (by decide) (fun cw8 => by first | exact absurd cw8 ((fun z => nn.1 ((ch_eq (k := 103) (by decide)).mp z))) | exact absurd ((fun z => nn.1 ((ch_eq (k := 103) (by decide)).mp z))) cw8) (fun cw8 => ?_)
    refine E_iload_n dX12_readsRule_11 rfl ?_
    refine E_bp (nI 102) dX12_readsRule_12 (by decide) ?_
    refine E_icmp_eq (tgt := 45) dX12_readsRule_14 (by decide) (fun cw14 => by first | exact absurd cw14 ((fun z => nn.2.1 ((ch_eq (k := 102) (by decide)).mp z))) | exact absurd ((fun z => nn.2.1 ((ch_eq (k := 102) (by decide)).mp z))) cw14) (fun cw14 => ?_)
    refine E_iload_n dX12_readsRule_17 rfl ?_
    refine E_bp (nI 97) dX12_readsRule_18 (by decide) ?_
    refine E_icmp_eq (tgt := 45) dX12_readsRule_20 (by decide) (fun cw20 => by first | exact absurd cw20 ((fun z => nn.2.2.1 ((ch_eq (k := 97) (by decide)).mp z))) | exact absurd ((fun z => nn.2.2.1 ((ch_eq (k := 97) (by decide)).mp z))) cw20) (fun cw20 => ?_)
    refine E_iload_n dX12_readsRule_23 rfl ?_
    refine E_bp (nI 100) dX12_readsRule_24 (by decide) ?_
    refine E_icmp_eq (tgt := 45) dX12_readsRule_26 (by decide) (fun cw26 => by first | exact absurd cw26 ((fun z => nn.2.2.2.1 ((ch_eq (k := 100) (by decide)).mp z))) | exact absurd ((fun z => nn.2.2.2.1 ((ch_eq (k := 100) (by decide)).mp z))) cw26) (fun cw26 => ?_)
    refine E_iload_n dX12_readsRule_29 rfl ?_
    refine E_bp (nI 120) dX12_readsRule_30 (by decide) ?_
    refine E_icmp_eq (tgt := 45) dX12_readsRule_32 (by decide) (fun cw32 => by first | exact absurd cw32 ((fun z => nn.2.2.2.2 ((ch_eq (k := 120) (by decide)).mp z))) | exact absurd ((fun z => nn.2.2.2.2 ((ch_eq (k := 120) (by decide)).mp z))) cw32) (fun cw32 => ?_)
    refine E_aload_n dX12_readsRule_35 rfl ?_
    refine E_ic (nI 1) dX12_readsRule_36 (by decide) ?_
    refine E_aload_n dX12_readsRule_37 rfl ?_
    refine E_getI dX12_readsRule_38 f_X12_136 rfl (Nat.lt_of_lt_of_le (by decide) hN) rfl ?_
    refine E.top (hP.1) ?_
    refine E_callV (As := [_, _]) (ci := 11) (kc' := 0) (ks' := 0) (kc := 0) (ks := 0) dX12_readsRule_41 ok_X12_wrongAt w_X12_149 i_X12_wrongAt s_X12_wrongAt rfl (by decide) rfl (Nat.lt_of_lt_of_le (by decide) hN) rfl rfl rfl (Nat.le_of_ble_eq_true rfl) (Nat.le_of_ble_eq_true rfl) (by omega) (m_wrongAt (d := 0) (k := 1) (q := p) hN ?_)
    exact E_zret dX12_readsRule_44 rfl (by decide) (hQ0 _ (if_pos c1) _ (FQm.up I _ (by decide)) (up2_s _ _ _ _))
  · have hp := hc.lt (rl_lt c1)
    have l256 := rl_lt c1
    have ri := rl_in c1
    have k45 : E g mX12_readsRule d 0 0 45 [.ref 114, .int (nI (c p))] [] n I J R Q := by
     by_cases c2 : w.1 = 16
     · skip
       refine E_aload_n dX12_readsRule_45 rfl ?_
       refine E_getI dX12_readsRule_46 f_X12_216 rfl (Nat.lt_of_lt_of_le (by decide) hN) rfl ?_
       refine E.top (hD.1) ?_
       refine E_bp (nI 16) dX12_readsRule_49 (by decide) ?_
       refine E_cN_ne (a := w.1) (b := 16) (tgt := 64) dX12_readsRule_51 (by omega) (by decide) (by decide) (fun cw51 => absurd cw51 (by omega)) (fun cw51 => ?_)
       refine E_aload_n dX12_readsRule_54 rfl ?_
       refine E_ic (nI 4) dX12_readsRule_55 (by decide) ?_
       refine E_aload_n dX12_readsRule_56 rfl ?_
       refine E_getI dX12_readsRule_57 f_X12_136 rfl (Nat.lt_of_lt_of_le (by decide) hN) rfl ?_
       refine E.top (hP.1) ?_
       refine E_callV (As := [_, _]) (ci := 11) (kc' := 0) (ks' := 0) (kc := 0) (ks := 0) dX12_readsRule_60 ok_X12_wrongAt w_X12_149 i_X12_wrongAt s_X12_wrongAt rfl (by decide) rfl (Nat.lt_of_lt_of_le (by decide) hN) rfl rfl rfl (Nat.le_of_ble_eq_true rfl) (Nat.le_of_ble_eq_true rfl) (by omega) (m_wrongAt (d := 0) (k := 4) (q := p) hN ?_)
       exact E_zret dX12_readsRule_63 rfl (by decide) (hQ0 _ ((if_neg c1).trans (if_pos c2)) _ (FQm.up I _ (by decide)) (up2_s _ _ _ _))
     · have k122 : ∀ (a : TS) (I4 : IM), reL c (p, wS w, wC w) = .inr a → FQm I I4 → PLm 6 [] a I4 → LDm w I4 → I4 124 w.1 = nI (c p) → I4 125 w.1 = nI (wS w) → a.1 ≤ L → a.2.1 ≤ a.1 → CDok a.2.2 a.2.1 → E g mX12_readsRule d 0 0 122 [.ref 114, .int (nI (c p))] [] n I4 J R Q := by
        intro a I4 ha f4 p4 d4 h24 h25 a1 a2 a3
        refine E_aload_n dX12_readsRule_122 rfl ?_
        refine E_getR dX12_readsRule_123 f_X12_44 rfl (Nat.lt_of_lt_of_le (by decide) hN) rfl (hR _ _ _ rfl) ?_
        refine E_aload_n dX12_readsRule_126 rfl ?_
        refine E_getI dX12_readsRule_127 f_X12_216 rfl (Nat.lt_of_lt_of_le (by decide) hN) rfl ?_
        refine E.top (d4.1) ?_
        refine E_aload_n dX12_readsRule_130 rfl ?_
        refine E_getI dX12_readsRule_131 f_X12_160 rfl (Nat.lt_of_lt_of_le (by decide) hN) rfl ?_
        refine E.top (p4.2.1) ?_
        refine E_iastN dX12_readsRule_134 rfl (Nat.lt_of_lt_of_le (by decide) hN) (by omega) ?_
        refine E_aload_n dX12_readsRule_135 rfl ?_
        refine E_callV (As := []) (ci := 11) (kc' := 0) (ks' := 0) (kc := 0) (ks := 0) dX12_readsRule_136 ok_X12_readsCondition w_X12_219 i_X12_readsCondition s_X12_readsCondition rfl (by decide) rfl (Nat.lt_of_lt_of_le (by decide) hN) rfl rfl rfl (Nat.le_of_ble_eq_true rfl) (Nat.le_of_ble_eq_true rfl) (by omega) (m_readsCondition (d := 6) (q := a) (by decide) hN hR hc hL a1 a2 a3 (hC.keepQ (f4.trans (FQm.row I4 _ _ (by decide)))) (p4.row _ _ (by decide)) ?_)
        cases hrc : rcL c a with
        | inl x =>
          intro I5 f5 e5
          refine E_zN_ne (a := 0) (tgt := 144) dX12_readsRule_139 (by decide) (by decide) (fun cw139 => absurd cw139 (by omega)) (fun cw139 => ?_)
          refine E_ic (nI 0) dX12_readsRule_142 (by decide) ?_
          exact E_zret dX12_readsRule_143 rfl (by decide) (hQ0 x (ru_cl c1 c2 ha hrc) I5 ((f4.trans (FQm.row I4 _ _ (by decide))).trans (FQm.of f5)) e5)
        | inr r =>
          intro I5 f5 p5
          refine E_zN_ne (a := 1) (tgt := 144) dX12_readsRule_139 (by decide) (by decide) (fun cw139 => ?_) (fun cw139 => absurd cw139 (by omega))
          refine E_aload_n dX12_readsRule_144 rfl ?_
          refine E_getR dX12_readsRule_145 f_X12_47 rfl (Nat.lt_of_lt_of_le (by decide) hN) rfl (hR _ _ _ rfl) ?_
          refine E_aload_n dX12_readsRule_148 rfl ?_
          refine E_getI dX12_readsRule_149 f_X12_216 rfl (Nat.lt_of_lt_of_le (by decide) hN) rfl ?_
          refine E.top ((f5.2 15 (by unfold fkQ; omega)).trans ((congrFun (up2_o I4 126 _ _ 114 (by decide)) 15).trans d4.1)) ?_
          refine E_aload_n dX12_readsRule_152 rfl ?_
          refine E_getI dX12_readsRule_153 f_X12_160 rfl (Nat.lt_of_lt_of_le (by decide) hN) rfl ?_
          refine E.top (p5.2.1) ?_
          refine E_iastN dX12_readsRule_156 rfl (Nat.lt_of_lt_of_le (by decide) hN) (by omega) ?_
          refine E_aload_n dX12_readsRule_157 rfl ?_
          refine E_aload_n dX12_readsRule_158 rfl ?_
          refine E_getI dX12_readsRule_159 f_X12_216 rfl (Nat.lt_of_lt_of_le (by decide) hN) rfl ?_
          refine E.top ((congrFun (up2_o I5 127 _ _ 114 (by decide)) 15).trans ((f5.2 15 (by unfold fkQ; omega)).trans ((congrFun (up2_o I4 126 _ _ 114 (by decide)) 15).trans d4.1))) ?_
          refine E_ic (nI 1) dX12_readsRule_162 (by decide) ?_
          refine E_iadd dX12_readsRule_163 ?_
          refine E.top (nI_add (w.1) 1) ?_
          refine E_putI dX12_readsRule_164 f_X12_216 rfl (Nat.lt_of_lt_of_le (by decide) hN) rfl ?_
          refine E_ic (nI 1) dX12_readsRule_167 (by decide) ?_
          exact E_zret dX12_readsRule_168 rfl (by decide) (hQ1 _ (ru_cr c1 c2 ha hrc) _ ((((f4.trans (FQm.row I4 _ _ (by decide))).trans (FQm.of f5)).trans (FQm.row I5 _ _ (by decide))).trans (FQm.up _ _ (by decide))) ((p5.q.row _ _ (by decide)).fld _ (by decide)) ⟨up2_s _ _ _ _, fun k hk => by
            have hk : k < w.1 + 1 := hk
            have g5 : ∀ x, 124 ≤ x → I5 x = up2 I4 126 w.1 (nI a.2.1) x := fun x hx => f5.1 x (by omega) (by omega) (by omega)
            rw [up2_o _ 114 _ _ 124 (by decide), up2_o _ 114 _ _ 125 (by decide), up2_o _ 114 _ _ 126 (by decide), up2_o _ 114 _ _ 127 (by decide), up2_o _ 127 _ _ 124 (by decide), up2_o _ 127 _ _ 125 (by decide), up2_o _ 127 _ _ 126 (by decide), g5 124 (by decide), g5 125 (by decide), g5 126 (by decide), up2_o _ 126 _ _ 124 (by decide), up2_o _ 126 _ _ 125 (by decide)]
            show I4 124 k = nI (up1 w.2.1 w.1 (c p) k) ∧ I4 125 k = nI (up1 w.2.2.1 w.1 (wS w) k) ∧ up2 I4 126 w.1 (nI a.2.1) 126 k = nI (up1 w.2.2.2.1 w.1 a.2.1 k) ∧ up2 I5 127 w.1 (nI r.2.1) 127 k = nI (up1 w.2.2.2.2.1 w.1 r.2.1 k)
            by_cases e : k = w.1
            · subst e
              rw [up1_s, up1_s, up1_s, up1_s, up2_s, up2_s]
              exact ⟨h24, h25, rfl, rfl⟩
            · rw [up1_n e, up1_n e, up1_n e, up1_n e, up2_k _ _ e, up2_k _ _ e, g5 127 (by decide), up2_o _ 126 _ _ 127 (by decide)]
              exact d4.2 k (by omega)⟩)
       have k107 : ∀ (IB : IM), FQm I IB → PLm 6 [] (p + 1, wS w, wC w) IB → LDm w IB → IB 124 w.1 = nI (c p) → IB 125 w.1 = nI (wS w) → E g mX12_readsRule d 0 0 107 [.ref 114, .int (nI (c p))] [] n IB J R Q := by
        intro IB fB pB dB h24 h25
        by_cases c3 : c p = 120
        · skip
          refine E_iload_n dX12_readsRule_107 rfl ?_
          refine E_bp (nI 120) dX12_readsRule_108 (by decide) ?_
          refine E_cN_eq (a := c p) (b := 120) (tgt := 122) dX12_readsRule_110 (by omega) (by decide) (by decide) (fun cw110 => ?_) (fun cw110 => absurd cw110 (by omega))
          exact k122 (p + 1, wS w, wC w) IB (if_pos c3) fB pB dB h24 h25 hp (Nat.le_succ_of_le hw.2.1) hw.2.2.1
        · skip
          refine E_iload_n dX12_readsRule_107 rfl ?_
          refine E_bp (nI 120) dX12_readsRule_108 (by decide) ?_
          refine E_cN_eq (a := c p) (b := 120) (tgt := 122) dX12_readsRule_110 (by omega) (by decide) (by decide) (fun cw110 => absurd cw110 (by omega)) (fun cw110 => ?_)
          refine E_aload_n dX12_readsRule_113 rfl ?_
          refine E_callV (As := []) (ci := 11) (kc' := 0) (ks' := 0) (kc := 0) (ks := 0) dX12_readsRule_114 ok_X12_readsSum w_X12_201 i_X12_readsSum s_X12_readsSum rfl (by decide) rfl (Nat.lt_of_lt_of_le (by decide) hN) rfl rfl rfl (Nat.le_of_ble_eq_true rfl) (Nat.le_of_ble_eq_true rfl) (by omega) (m_readsSum (d := 4) (k := 6) (B := []) (q := (p + 1, wS w, wC w)) (by decide) hN hR hc hL (by decide) (Or.inl rfl) (fun e he => nomatch he) hp (Nat.le_succ_of_le hw.2.1) (Nat.zero_le _) (hC.keepQ fB) pB ?_)
          cases hsm : smL c 6 (p + 1, wS w, wC w) with
          | inl x =>
            intro I4 f4 e4
            refine E_zN_ne (a := 0) (tgt := 122) dX12_readsRule_117 (by decide) (by decide) (fun cw117 => absurd cw117 (by omega)) (fun cw117 => ?_)
            refine E_ic (nI 0) dX12_readsRule_120 (by decide) ?_
            exact E_zret dX12_readsRule_121 rfl (by decide) (hQ0 x (ru_l c1 c2 ((if_neg c3).trans hsm)) I4 (fB.trans (FQm.of f4)) e4)
          | inr a =>
            intro I4 f4 p4
            obtain ⟨g1, _, _, _⟩ := sm_ok hc 6 (p + 1, wS w, wC w) a hp (Nat.le_succ_of_le hw.2.1) hsm
            refine E_zN_ne (a := 1) (tgt := 122) dX12_readsRule_117 (by decide) (by decide) (fun cw117 => ?_) (fun cw117 => absurd cw117 (by omega))
            exact k122 a I4 ((if_neg c3).trans hsm) (fB.trans (FQm.of f4)) p4 (dB.keep f4) ((congrFun (f4.1 124 (by decide) (by decide) (by decide)) _).trans h24) ((congrFun (f4.1 125 (by decide) (by decide) (by decide)) _).trans h25) g1.2.1 (OKP.s (h := 20) (V := V01) g1 (Nat.le_succ_of_le hw.2.1)) (CDok.gw (q := (p + 1, wS w, wC w)) hw.2.2.1 g1)
       refine E_aload_n dX12_readsRule_45 rfl ?_
       refine E_getI dX12_readsRule_46 f_X12_216 rfl (Nat.lt_of_lt_of_le (by decide) hN) rfl ?_
       refine E.top (hD.1) ?_
       refine E_bp (nI 16) dX12_readsRule_49 (by decide) ?_
       refine E_cN_ne (a := w.1) (b := 16) (tgt := 64) dX12_readsRule_51 (by omega) (by decide) (by decide) (fun cw51 => ?_) (fun cw51 => absurd cw51 (by omega))
       refine E_aload_n dX12_readsRule_64 rfl ?_
       refine E_getR dX12_readsRule_65 f_X12_38 rfl (Nat.lt_of_lt_of_le (by decide) hN) rfl (hR _ _ _ rfl) ?_
       refine E_aload_n dX12_readsRule_68 rfl ?_
       refine E_getI dX12_readsRule_69 f_X12_216 rfl (Nat.lt_of_lt_of_le (by decide) hN) rfl ?_
       refine E.top (hD.1) ?_
       refine E_iload_n dX12_readsRule_72 rfl ?_
       refine E_iastN dX12_readsRule_73 rfl (Nat.lt_of_lt_of_le (by decide) hN) (by omega) ?_
       refine E_aload_n dX12_readsRule_74 rfl ?_
       refine E_aload_n dX12_readsRule_75 rfl ?_
       refine E_getI dX12_readsRule_76 f_X12_136 rfl (Nat.lt_of_lt_of_le (by decide) hN) rfl ?_
       refine E.top ((congrFun (up2_o I 124 _ _ 114 (by decide)) 8).trans hP.1) ?_
       refine E_ic (nI 1) dX12_readsRule_79 (by decide) ?_
       refine E_iadd dX12_readsRule_80 ?_
       refine E.top (nI_add p 1) ?_
       refine E_putI dX12_readsRule_81 f_X12_136 rfl (Nat.lt_of_lt_of_le (by decide) hN) rfl ?_
       refine E_aload_n dX12_readsRule_84 rfl ?_
       refine E_getR dX12_readsRule_85 f_X12_41 rfl (Nat.lt_of_lt_of_le (by decide) hN) rfl (hR _ _ _ rfl) ?_
       refine E_aload_n dX12_readsRule_88 rfl ?_
       refine E_getI dX12_readsRule_89 f_X12_216 rfl (Nat.lt_of_lt_of_le (by decide) hN) rfl ?_
       refine E.top ((up2_k _ _ (by decide)).trans ((congrFun (up2_o I 124 _ _ 114 (by decide)) 15).trans hD.1)) ?_
       refine E_aload_n dX12_readsRule_92 rfl ?_
       refine E_getI dX12_readsRule_93 f_X12_160 rfl (Nat.lt_of_lt_of_le (by decide) hN) rfl ?_
       refine E.top ((up2_k _ _ (by decide)).trans ((congrFun (up2_o I 124 _ _ 114 (by decide)) 13).trans hP.2.1)) ?_
       refine E_iastN dX12_readsRule_96 rfl (Nat.lt_of_lt_of_le (by decide) hN) (by omega) ?_
       refine E_aload_n dX12_readsRule_97 rfl ?_
       refine E_ic (nI 0) dX12_readsRule_98 (by decide) ?_
       refine E_putI dX12_readsRule_99 f_X12_164 rfl (Nat.lt_of_lt_of_le (by decide) hN) rfl ?_
       refine E_aload_n dX12_readsRule_102 rfl ?_
       refine E_ic (nI 0) dX12_readsRule_103 (by decide) ?_
       refine E_putI dX12_readsRule_104 f_X12_167 rfl (Nat.lt_of_lt_of_le (by decide) hN) rfl ?_
       refine k107 _ ((((FQm.row I _ _ (by decide)).trans (FQm.up _ _ (by decide))).trans (FQm.row _ _ _ (by decide))).trans ((FQm.up _ _ (by decide)).trans (FQm.up _ _ (by decide)))) (PQm.z (PQm.row (PQm.at (q := (p, wS w, wC w)) (PQm.row hP _ _ (by decide)) (p + 1)) _ _ (by decide))) ⟨?_, fun k hk => ?_⟩ ?_ ?_
       · rw [up2_k _ _ (by decide), up2_k _ _ (by decide), up2_o _ 125 _ _ 114 (by decide), up2_k _ _ (by decide), up2_o _ 124 _ _ 114 (by decide)]
         exact hD.1
       · rw [up2_o _ 114 _ _ 124 (by decide), up2_o _ 114 _ _ 125 (by decide), up2_o _ 114 _ _ 126 (by decide), up2_o _ 114 _ _ 127 (by decide), up2_o _ 114 _ _ 124 (by decide), up2_o _ 114 _ _ 125 (by decide), up2_o _ 114 _ _ 126 (by decide), up2_o _ 114 _ _ 127 (by decide), up2_o _ 125 _ _ 124 (by decide), up2_k _ _ (show k ≠ w.1 by omega), up2_o _ 125 _ _ 126 (by decide), up2_o _ 125 _ _ 127 (by decide), up2_o _ 114 _ _ 124 (by decide), up2_o _ 114 _ _ 125 (by decide), up2_o _ 114 _ _ 126 (by decide), up2_o _ 114 _ _ 127 (by decide), up2_k _ _ (show k ≠ w.1 by omega), up2_o _ 124 _ _ 125 (by decide), up2_o _ 124 _ _ 126 (by decide), up2_o _ 124 _ _ 127 (by decide)]
         exact hD.2 k hk
       · rw [up2_o _ 114 _ _ 124 (by decide), up2_o _ 114 _ _ 124 (by decide), up2_o _ 125 _ _ 124 (by decide), up2_o _ 114 _ _ 124 (by decide), up2_s]
       · rw [up2_o _ 114 _ _ 125 (by decide), up2_o _ 114 _ _ 125 (by decide), up2_s]
    refine E_aload_n dX12_readsRule_0 rfl ?_
    refine E_callV (As := []) (ci := 11) (kc' := 0) (ks' := 0) (kc := 0) (ks := 0) dX12_readsRule_1 ok_X12_here w_X12_142 i_X12_here s_X12_here rfl (by decide) rfl (Nat.lt_of_lt_of_le (by decide) hN) rfl rfl rfl (Nat.le_of_ble_eq_true rfl) (Nat.le_of_ble_eq_true rfl) (by omega) (m_here (d := 0) hN hR hc (Nat.le_trans hL (by decide)) hC.1 hC.2 (p := p) (by omega) hP.1 ?_)
    refine E.top (show chI (c p) = nI (c p) from if_pos l256) ?_
    refine E_istore_n dX12_readsRule_4 (Nat.le_of_ble_eq_true rfl) ?_
    refine E_iload_n dX12_readsRule_5 rfl ?_
    refine E_bp (nI 103) dX12_readsRule_6 (by decide) ?_
    refine E_cN_eq (a := c p) (b := 103) (tgt := 45) dX12_readsRule_8 (by omega) (by decide) (by decide) (fun cw8 => ?_) (fun cw8 => ?_)
    · exact k45
    · refine E_iload_n dX12_readsRule_11 rfl ?_
      refine E_bp (nI 102) dX12_readsRule_12 (by decide) ?_
      refine E_cN_eq (a := c p) (b := 102) (tgt := 45) dX12_readsRule_14 (by omega) (by decide) (by decide) (fun cw14 => ?_) (fun cw14 => ?_)
      · exact k45
      · refine E_iload_n dX12_readsRule_17 rfl ?_
        refine E_bp (nI 97) dX12_readsRule_18 (by decide) ?_
        refine E_cN_eq (a := c p) (b := 97) (tgt := 45) dX12_readsRule_20 (by omega) (by decide) (by decide) (fun cw20 => ?_) (fun cw20 => ?_)
        · exact k45
        · refine E_iload_n dX12_readsRule_23 rfl ?_
          refine E_bp (nI 100) dX12_readsRule_24 (by decide) ?_
          refine E_cN_eq (a := c p) (b := 100) (tgt := 45) dX12_readsRule_26 (by omega) (by decide) (by decide) (fun cw26 => ?_) (fun cw26 => ?_)
          · exact k45
          · refine E_iload_n dX12_readsRule_29 rfl ?_
            refine E_bp (nI 120) dX12_readsRule_30 (by decide) ?_
            refine E_cN_eq (a := c p) (b := 120) (tgt := 45) dX12_readsRule_32 (by omega) (by decide) (by decide) (fun cw32 => ?_) (fun cw32 => absurd cw32 (by omega))
            exact k45
end PLawM7
