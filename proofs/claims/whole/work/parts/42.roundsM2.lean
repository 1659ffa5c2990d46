/-! ===== the texts with rounds, the reference's methods ===== -/
def CTm (t : Nat → Nat) (L most il : Nat) (I : IM) : Prop := I 114 9 = nI L ∧ I 114 35 = nI most ∧ I 114 39 = nI il ∧ ∀ j, j < L → I 121 j &&& 255 = nI (t j)
def fkM (k : Nat) : Prop := k < 8 ∨ k = 9 ∨ (11 < k ∧ k < 34) ∨ k = 35 ∨ 38 < k
def RFm (I I' : IM) : Prop := (∀ x, x ≠ 114 → x ≠ 135 → x ≠ 136 → x ≠ 137 → x ≠ 138 → I' x = I x) ∧ ∀ k, fkM k → I' 114 k = I 114 k
def SKm (I : IM) : SK → Prop
  | [] => True
  | e :: st => I 136 st.length = nI e.1 ∧ I 137 st.length = nI e.2.1 ∧ I 138 st.length = nI e.2.2 ∧ SKm I st
def RPm (st : SK) (p s : Nat) (f : FN) (I : IM) : Prop := I 114 8 = nI p ∧ I 114 34 = nI s ∧ (∀ i, i < s → I 135 i = nI (f i)) ∧ I 114 36 = nI st.length ∧ SKm I st
theorem SKm.congr {I I' : IM} (h6 : I' 136 = I 136) (h7 : I' 137 = I 137) (h8 : I' 138 = I 138) : ∀ {st : SK}, SKm I st → SKm I' st
  | [], _ => trivial
  | e :: st, h => ⟨by rw [h6]; exact h.1, by rw [h7]; exact h.2.1, by rw [h8]; exact h.2.2.1, SKm.congr h6 h7 h8 h.2.2.2⟩
theorem RFm.refl (I : IM) : RFm I I := ⟨fun _ _ _ _ _ _ => rfl, fun _ _ => rfl⟩
theorem RFm.trans {I I' I2 : IM} (h : RFm I I') (h2 : RFm I' I2) : RFm I I2 := ⟨fun x a b c d e => (h2.1 x a b c d e).trans (h.1 x a b c d e), fun k hk => (h2.2 k hk).trans (h.2 k hk)⟩
theorem RFm.up (I : IM) {k : Nat} (v : Int32) (h : k = 8 ∨ k = 10 ∨ k = 11 ∨ k = 34 ∨ k = 36 ∨ k = 37 ∨ k = 38) : RFm I (up2 I 114 k v) := ⟨fun x a _ _ _ _ => up2_o I 114 k v x a, fun j hj => up2_k I v (by unfold fkM at hj; omega)⟩
theorem RFm.row (I : IM) {a : Nat} (k : Nat) (v : Int32) (h : a = 135 ∨ a = 136 ∨ a = 137 ∨ a = 138) : RFm I (up2 I a k v) := ⟨fun x _ b c d e => up2_o I a k v x (by omega), fun j _ => congrFun (up2_o I a k v 114 (by omega)) j⟩
theorem CTm.keep {t : Nat → Nat} {L most il : Nat} {I I' : IM} (h : CTm t L most il I) (h2 : RFm I I') : CTm t L most il I' := ⟨(h2.2 9 (by unfold fkM; omega)).trans h.1, (h2.2 35 (by unfold fkM; omega)).trans h.2.1, (h2.2 39 (by unfold fkM; omega)).trans h.2.2.1, fun j hj => by rw [h2.1 121 (by decide) (by decide) (by decide) (by decide) (by decide)]; exact h.2.2.2 j hj⟩
theorem RPm.at {st : SK} {p q s : Nat} {f : FN} {I : IM} (h : RPm st p s f I) : RPm st q s f (up2 I 114 8 (nI q)) := ⟨up2_s _ _ _ _, (up2_k I _ (by decide)).trans h.2.1, fun i hi => (congrFun (up2_o I 114 8 _ 135 (by decide)) i).trans (h.2.2.1 i hi), (up2_k I _ (by decide)).trans h.2.2.2.1, h.2.2.2.2.congr (up2_o I 114 8 _ 136 (by decide)) (up2_o I 114 8 _ 137 (by decide)) (up2_o I 114 8 _ 138 (by decide))⟩
theorem RPm.fl {st : SK} {p s k : Nat} {f : FN} {I : IM} {v : Int32} (h : RPm st p s f I) (hk : k = 10 ∨ k = 11 ∨ k = 37 ∨ k = 38) : RPm st p s f (up2 I 114 k v) := ⟨(up2_k I _ (by omega)).trans h.1, (up2_k I _ (by omega)).trans h.2.1, fun i hi => (congrFun (up2_o I 114 k _ 135 (by decide)) i).trans (h.2.2.1 i hi), (up2_k I _ (by omega)).trans h.2.2.2.1, h.2.2.2.2.congr (up2_o I 114 k _ 136 (by decide)) (up2_o I 114 k _ 137 (by decide)) (up2_o I 114 k _ 138 (by decide))⟩
def ROm (I : IM) (J : JM) (R : RM) (n : Nat) (Q : PQ) : Int32 ⊕ (SK × Nat × Nat × FN) → Prop
  | .inl x => ∀ I' : IM, RFm I I' → I' 114 10 = x → Q (some (.int 0)) n I' J R
  | .inr q => ∀ I' : IM, RFm I I' → RPm q.1 q.2.1 q.2.2.1 q.2.2.2 I' → Q (some (.int 1)) n I' J R
theorem ROm.from {I I1 : IM} {J : JM} {R : RM} {n : Nat} {Q : PQ} (h : RFm I I1) : ∀ {r : Int32 ⊕ (SK × Nat × Nat × FN)}, ROm I J R n Q r → ROm I1 J R n Q r
  | .inl _, q => fun I' a b => q I' (h.trans a) b
  | .inr _, q => fun I' a b => q I' (h.trans a) b
theorem fk9 : fkM 9 := by unfold fkM; omega
section PRoundsM2
variable {g : GL} {d n : Nat} {I : IM} {J : JM} {R : RM} {Q : PQ} {t c : Nat → Nat} {L most il p s : Nat} {f : FN} {st : SK}
set_option maxRecDepth 100000 in
set_option maxHeartbeats 2000000 in
theorem m_here (hN : 152 ≤ n) (hR : RS R) (hc : okc t L c) (hL : L ≤ 260) (h9 : I 114 9 = nI L) (hT : ∀ j, j < L → I 121 j &&& 255 = nI (t j)) (hp : p < 1000) (h8 : I 114 8 = nI p) (hQ : Q (some (.int (chI (c p)))) n I J R) : E g mX12_here d 0 0 0 (ent 1 [.ref 114]) [] n I J R Q := by
  refine E_aload_n dX12_here_0 rfl ?_
  refine E_getI dX12_here_1 f_X12_136 rfl (Nat.lt_of_lt_of_le (by decide) hN) rfl ?_
  refine E.top (h8) ?_
  refine E_aload_n dX12_here_4 rfl ?_
  refine E_getI dX12_here_5 f_X12_139 rfl (Nat.lt_of_lt_of_le (by decide) hN) rfl ?_
  refine E.top (h9) ?_
  refine E_cN_ge (a := p) (b := L) (tgt := 27) dX12_here_8 (by omega) (by omega) (by decide) (fun cw8 => ?_) (fun cw8 => ?_)
  · refine E_ic (-1) dX12_here_27 (by decide) ?_
    exact E_iret dX12_here_28 rfl (by first | (rw [hc.in cw8] at hQ; exact hQ) | (rw [hc.out cw8] at hQ; exact hQ))
  · refine E_aload_n dX12_here_11 rfl ?_
    refine E_getR dX12_here_12 f_X12_28 rfl (Nat.lt_of_lt_of_le (by decide) hN) rfl (hR _ _ _ rfl) ?_
    refine E_aload_n dX12_here_15 rfl ?_
    refine E_getI dX12_here_16 f_X12_136 rfl (Nat.lt_of_lt_of_le (by decide) hN) rfl ?_
    refine E.top (h8) ?_
    refine E_baldN dX12_here_19 rfl (Nat.lt_of_lt_of_le (by decide) hN) (by omega) ?_
    refine E_sp (nI 255) dX12_here_20 (by decide) ?_
    refine E_iand dX12_here_23 ?_
    refine E.top (show I 121 p &&& nI 255 = nI (t p) from hT p cw8) ?_
    refine E_goto (tgt := 28) dX12_here_24 (by decide) ?_
    exact E_iret dX12_here_28 rfl (by first | (rw [hc.in cw8] at hQ; exact hQ) | (rw [hc.out cw8] at hQ; exact hQ))
set_option maxRecDepth 100000 in
set_option maxHeartbeats 2000000 in
theorem m_wrongAt {k q : Nat} (hN : 152 ≤ n) (hQ : Q (some (.int 0)) n (up2 I 114 10 (flt k q)) J R) : E g mX12_wrongAt d 0 0 0 (ent 3 [.ref 114, .int (nI k), .int (nI q)]) [] n I J R Q := by
  refine E_aload_n dX12_wrongAt_0 rfl ?_
  refine E_sp (-1000) dX12_wrongAt_1 (by decide) ?_
  refine E_iload_n dX12_wrongAt_4 rfl ?_
  refine E_imul dX12_wrongAt_5 ?_
  refine E_iload_n dX12_wrongAt_6 rfl ?_
  refine E_isub dX12_wrongAt_7 ?_
  refine E_putI dX12_wrongAt_8 f_X12_146 rfl (Nat.lt_of_lt_of_le (by decide) hN) rfl ?_
  refine E_ic (nI 0) dX12_wrongAt_11 (by decide) ?_
  exact E_zret dX12_wrongAt_12 rfl (by decide) (hQ)
set_option maxRecDepth 100000 in
set_option maxHeartbeats 2000000 in
theorem m_inC {cc lo hi : Nat} (h1 : lo < 256) (h2 : hi < 256) (ht : lo ≤ cc → cc ≤ hi → Q (some (.int 1)) n I J R) (hf : ¬ (lo ≤ cc ∧ cc ≤ hi) → Q (some (.int 0)) n I J R) : E g mX12_in d 0 0 0 (ent 3 [.int (chI cc), .int (nI lo), .int (nI hi)]) [] n I J R Q := by
  refine m_in (fun a b => ?_) (fun a => ?_)
  · have a1 : ¬ (cc < lo ∨ 256 ≤ cc) := fun z => a ((ch_lt h1).mpr z)
    have b1 : ¬ (hi < cc ∧ cc < 256) := fun z => b ((ch_gt h2).mpr z)
    exact ht (by omega) (by omega)
  · refine hf (fun z => ?_)
    rcases a with a | a
    · have := (ch_lt h1).mp a
      omega
    · have := (ch_gt h2).mp a
      omega
set_option maxRecDepth 100000 in
set_option maxHeartbeats 2000000 in
theorem m_isDigit (hN : 152 ≤ n) (hR : RS R) (hc : okc t L c) (hL : L ≤ 260) (hC : CTm t L most il I) (hp : p < 1000) (h8 : I 114 8 = nI p) (ht : 48 ≤ c p → c p ≤ 57 → Q (some (.int 1)) n I J R) (hf : ¬ (48 ≤ c p ∧ c p ≤ 57) → Q (some (.int 0)) n I J R) : E g mX12_isDigit (d + 1) 0 0 0 (ent 1 [.ref 114]) [] n I J R Q := by
  refine E_aload_n dX12_isDigit_0 rfl ?_
  refine E_callV (As := []) (ci := 11) (kc' := 0) (ks' := 0) (kc := 0) (ks := 0) dX12_isDigit_1 ok_X12_here w_X12_142 i_X12_here s_X12_here rfl (by decide) rfl (Nat.lt_of_lt_of_le (by decide) hN) rfl rfl rfl (Nat.le_of_ble_eq_true rfl) (Nat.le_of_ble_eq_true rfl) (Nat.le_refl _) (m_here hN hR hc hL (hC.1) (hC.2.2.2) (p := p) (by omega) (h8) ?_)
  refine E_bp (nI 48) dX12_isDigit_4 (by decide) ?_
  refine E_icmp_lt (tgt := 22) dX12_isDigit_6 (by decide) (fun cw6 => ?_) (fun cw6 => ?_)
  · refine E_ic (nI 0) dX12_isDigit_22 (by decide) ?_
    exact E_zret dX12_isDigit_23 rfl (by decide) (by first | exact hf (fun z => by have := (ch_lt (k := 48) (by decide)).mp cw6; omega) | exact hf (fun z => by have := (ch_gt (k := 57) (by decide)).mp cw15; omega) | exact ht (by have a1 : ¬ (c p < 48 ∨ 256 ≤ c p) := fun z => cw6 ((ch_lt (k := 48) (by decide)).mpr z); omega) (by have a1 : ¬ (c p < 48 ∨ 256 ≤ c p) := fun z => cw6 ((ch_lt (k := 48) (by decide)).mpr z); have b1 : ¬ (57 < c p ∧ c p < 256) := fun z => cw15 ((ch_gt (k := 57) (by decide)).mpr z); omega))
  · refine E_aload_n dX12_isDigit_9 rfl ?_
    refine E_callV (As := []) (ci := 11) (kc' := 0) (ks' := 0) (kc := 0) (ks := 0) dX12_isDigit_10 ok_X12_here w_X12_142 i_X12_here s_X12_here rfl (by decide) rfl (Nat.lt_of_lt_of_le (by decide) hN) rfl rfl rfl (Nat.le_of_ble_eq_true rfl) (Nat.le_of_ble_eq_true rfl) (Nat.le_refl _) (m_here hN hR hc hL (hC.1) (hC.2.2.2) (p := p) (by omega) (h8) ?_)
    refine E_bp (nI 57) dX12_isDigit_13 (by decide) ?_
    refine E_icmp_gt (tgt := 22) dX12_isDigit_15 (by decide) (fun cw15 => ?_) (fun cw15 => ?_)
    · refine E_ic (nI 0) dX12_isDigit_22 (by decide) ?_
      exact E_zret dX12_isDigit_23 rfl (by decide) (by first | exact hf (fun z => by have := (ch_lt (k := 48) (by decide)).mp cw6; omega) | exact hf (fun z => by have := (ch_gt (k := 57) (by decide)).mp cw15; omega) | exact ht (by have a1 : ¬ (c p < 48 ∨ 256 ≤ c p) := fun z => cw6 ((ch_lt (k := 48) (by decide)).mpr z); omega) (by have a1 : ¬ (c p < 48 ∨ 256 ≤ c p) := fun z => cw6 ((ch_lt (k := 48) (by decide)).mpr z); have b1 : ¬ (57 < c p ∧ c p < 256) := fun z => cw15 ((ch_gt (k := 57) (by decide)).mpr z); omega))
    · refine E_ic (nI 1) dX12_isDigit_18 (by decide) ?_
      refine E_goto (tgt := 23) dX12_isDigit_19 (by decide) ?_
      exact E_zret dX12_isDigit_23 rfl (by decide) (by first | exact hf (fun z => by have := (ch_lt (k := 48) (by decide)).mp cw6; omega) | exact hf (fun z => by have := (ch_gt (k := 57) (by decide)).mp cw15; omega) | exact ht (by have a1 : ¬ (c p < 48 ∨ 256 ≤ c p) := fun z => cw6 ((ch_lt (k := 48) (by decide)).mpr z); omega) (by have a1 : ¬ (c p < 48 ∨ 256 ≤ c p) := fun z => cw6 ((ch_lt (k := 48) (by decide)).mpr z); have b1 : ¬ (57 < c p ∧ c p < 256) := fun z => cw15 ((ch_gt (k := 57) (by decide)).mpr z); omega))
set_option maxRecDepth 100000 in
set_option maxHeartbeats 2000000 in
theorem m_readsTimes (hN : 152 ≤ n) (hR : RS R) (hc : okc t L c) (hL : L ≤ 260) (hC : CTm t L most il I) (hil : il ≤ 1) (hp : p ≤ L) (hP : RPm st p s f I) (hQ0 : (tmR il c p).1 = 0 → ∀ I2 : IM, RFm I I2 → I2 114 10 = flt 1 (tmR il c p).2 → Q (some (.int 0)) n I2 J R) (hQ1 : (tmR il c p).1 ≠ 0 → ∀ I2 : IM, RFm I I2 → RPm st (tmR il c p).2 s f I2 → I2 114 37 = nI p → I2 114 38 = nI (tmR il c p).1 → Q (some (.int 1)) n I2 J R) : E g mX12_readsTimes (d + 1) 0 0 0 (ent 1 [.ref 114]) [] n I J R Q := by
  have hi2 : il = 1 ∨ il = 0 := by omega
  rcases hi2 with rfl | rfl
  · skip
    refine E_aload_n dX12_readsTimes_0 rfl ?_
    refine E_aload_n dX12_readsTimes_1 rfl ?_
    refine E_getI dX12_readsTimes_2 f_X12_136 rfl (Nat.lt_of_lt_of_le (by decide) hN) rfl ?_
    refine E.top (hP.1) ?_
    refine E_putI dX12_readsTimes_5 f_X12_242 rfl (Nat.lt_of_lt_of_le (by decide) hN) rfl ?_
    refine E_aload_n dX12_readsTimes_8 rfl ?_
    refine E_ic (nI 1) dX12_readsTimes_9 (by decide) ?_
    refine E_putI dX12_readsTimes_10 f_X12_245 rfl (Nat.lt_of_lt_of_le (by decide) hN) rfl ?_
    refine E_aload_n dX12_readsTimes_13 rfl ?_
    refine E_getI dX12_readsTimes_14 f_X12_248 rfl (Nat.lt_of_lt_of_le (by decide) hN) rfl ?_
    refine E.top ((((RFm.up I (nI p) (by decide)).trans (RFm.up (up2 I 114 37 (nI p)) (nI 1) (by decide))).2 39 (by unfold fkM; omega)).trans hC.2.2.1) ?_
    refine E_zN_eq (a := 1) (tgt := 65) dX12_readsTimes_17 (by decide) (by decide) (fun cw17 => absurd cw17 (by omega)) (fun cw17 => ?_)
    refine E_aload_n dX12_readsTimes_20 rfl ?_
    refine E_callV (As := []) (ci := 11) (kc' := 0) (ks' := 0) (kc := 0) (ks := 0) dX12_readsTimes_21 ok_X12_here w_X12_142 i_X12_here s_X12_here rfl (by decide) rfl (Nat.lt_of_lt_of_le (by decide) hN) rfl rfl rfl (Nat.le_of_ble_eq_true rfl) (Nat.le_of_ble_eq_true rfl) (Nat.le_refl _) (m_here hN hR hc hL ((hC.keep ((RFm.up I (nI p) (by decide)).trans (RFm.up (up2 I 114 37 (nI p)) (nI 1) (by decide)))).1) ((hC.keep ((RFm.up I (nI p) (by decide)).trans (RFm.up (up2 I 114 37 (nI p)) (nI 1) (by decide)))).2.2.2) (p := p) (by omega) (((hP.fl (k := 37) (v := nI p) (by decide)).fl (k := 38) (v := nI 1) (by decide)).1) ?_)
    refine E_bp (nI 42) dX12_readsTimes_24 (by decide) ?_
    refine E_icmp_eq (tgt := 31) dX12_readsTimes_26 (by decide) (fun cw26 => ?_) (fun cw26 => ?_)
    · refine E_aload_n dX12_readsTimes_31 rfl ?_
      refine E_aload_n dX12_readsTimes_32 rfl ?_
      refine E_getI dX12_readsTimes_33 f_X12_136 rfl (Nat.lt_of_lt_of_le (by decide) hN) rfl ?_
      refine E.top ((up2_k _ _ (by decide)).trans ((up2_k _ _ (by decide)).trans hP.1)) ?_
      refine E_ic (nI 1) dX12_readsTimes_36 (by decide) ?_
      refine E_iadd dX12_readsTimes_37 ?_
      refine E.top (nI_add p 1) ?_
      refine E_putI dX12_readsTimes_38 f_X12_136 rfl (Nat.lt_of_lt_of_le (by decide) hN) rfl ?_
      refine E_aload_n dX12_readsTimes_41 rfl ?_
      refine E_callV (As := []) (ci := 11) (kc' := 0) (ks' := 0) (kc := 0) (ks := 0) dX12_readsTimes_42 ok_X12_here w_X12_142 i_X12_here s_X12_here rfl (by decide) rfl (Nat.lt_of_lt_of_le (by decide) hN) rfl rfl rfl (Nat.le_of_ble_eq_true rfl) (Nat.le_of_ble_eq_true rfl) (Nat.le_refl _) (m_here hN hR hc hL ((hC.keep (((RFm.up I (nI p) (by decide)).trans (RFm.up (up2 I 114 37 (nI p)) (nI 1) (by decide))).trans (RFm.up (up2 (up2 I 114 37 (nI p)) 114 38 (nI 1)) (nI (p + 1)) (by decide)))).1) ((hC.keep (((RFm.up I (nI p) (by decide)).trans (RFm.up (up2 I 114 37 (nI p)) (nI 1) (by decide))).trans (RFm.up (up2 (up2 I 114 37 (nI p)) 114 38 (nI 1)) (nI (p + 1)) (by decide)))).2.2.2) (p := p + 1) (by omega) (up2_s _ _ _ _) ?_)
      refine E_bp (nI 50) dX12_readsTimes_45 (by decide) ?_
      refine E_bp (nI 57) dX12_readsTimes_47 (by decide) ?_
      refine E_callS (As := [_, _, _]) (kc' := 0) (ks' := 0) (kc := 0) (ks := 0) dX12_readsTimes_49 ok_X12_in w_X12_124 st_X12_in rfl rfl rfl (Nat.le_of_ble_eq_true rfl) (Nat.le_of_ble_eq_true rfl) (Nat.le_refl _) (m_inC (by decide) (by decide) (fun y1 y2 => ?_) (fun yn => ?_))
      · skip
        refine E_zN_ne (a := 1) (tgt := 81) dX12_readsTimes_52 (by decide) (by decide) (fun cw52 => ?_) (fun cw52 => absurd cw52 (by omega))
        refine E_aload_n dX12_readsTimes_81 rfl ?_
        refine E_aload_n dX12_readsTimes_82 rfl ?_
        refine E_callV (As := []) (ci := 11) (kc' := 0) (ks' := 0) (kc := 0) (ks := 0) dX12_readsTimes_83 ok_X12_here w_X12_142 i_X12_here s_X12_here rfl (by decide) rfl (Nat.lt_of_lt_of_le (by decide) hN) rfl rfl rfl (Nat.le_of_ble_eq_true rfl) (Nat.le_of_ble_eq_true rfl) (Nat.le_refl _) (m_here hN hR hc hL ((hC.keep (((RFm.up I (nI p) (by decide)).trans (RFm.up (up2 I 114 37 (nI p)) (nI 1) (by decide))).trans (RFm.up (up2 (up2 I 114 37 (nI p)) 114 38 (nI 1)) (nI (p + 1)) (by decide)))).1) ((hC.keep (((RFm.up I (nI p) (by decide)).trans (RFm.up (up2 I 114 37 (nI p)) (nI 1) (by decide))).trans (RFm.up (up2 (up2 I 114 37 (nI p)) 114 38 (nI 1)) (nI (p + 1)) (by decide)))).2.2.2) (p := p + 1) (by omega) ((((hP.fl (k := 37) (v := nI p) (by decide)).fl (k := 38) (v := nI 1) (by decide)).at (q := p + 1)).1) ?_)
        refine E_bp (nI 48) dX12_readsTimes_86 (by decide) ?_
        refine E_isub dX12_readsTimes_88 ?_
        refine E.top (show chI (c (p + 1)) - nI 48 = nI (c (p + 1) - 48) by rw [show chI (c (p + 1)) = nI (c (p + 1)) from if_pos (by omega), pk_sub (by omega)]) ?_
        refine E_putI dX12_readsTimes_89 f_X12_245 rfl (Nat.lt_of_lt_of_le (by decide) hN) rfl ?_
        refine E_aload_n dX12_readsTimes_92 rfl ?_
        refine E_aload_n dX12_readsTimes_93 rfl ?_
        refine E_getI dX12_readsTimes_94 f_X12_136 rfl (Nat.lt_of_lt_of_le (by decide) hN) rfl ?_
        refine E.top ((up2_k _ _ (by decide)).trans (((hP.fl (k := 37) (v := nI p) (by decide)).fl (k := 38) (v := nI 1) (by decide)).at (q := p + 1)).1) ?_
        refine E_ic (nI 1) dX12_readsTimes_97 (by decide) ?_
        refine E_iadd dX12_readsTimes_98 ?_
        refine E.top (nI_add (p + 1) 1) ?_
        refine E_putI dX12_readsTimes_99 f_X12_136 rfl (Nat.lt_of_lt_of_le (by decide) hN) rfl ?_
        refine E_ic (nI 1) dX12_readsTimes_102 (by decide) ?_
        exact E_zret dX12_readsTimes_103 rfl (by decide) (by
                have e : tmR 1 c p = (c (p + 1) - 48, p + 1 + 1) := ((if_pos rfl).trans ((if_pos ((ch_eq (by decide)).mp cw26)).trans (if_pos ⟨y1, y2⟩)))
                have e1 : (tmR 1 c p).1 = c (p + 1) - 48 := by rw [e]
                have e2 : (tmR 1 c p).2 = p + 1 + 1 := by rw [e]
                have hq := hQ1 (by rw [e1]; omega)
                rw [e1, e2] at hq
                refine hq _ ((((RFm.up I (nI p) (by decide)).trans (RFm.up (up2 I 114 37 (nI p)) (nI 1) (by decide))).trans (RFm.up (up2 (up2 I 114 37 (nI p)) 114 38 (nI 1)) (nI (p + 1)) (by decide))).trans ((RFm.up _ _ (by decide)).trans (RFm.up _ _ (by decide)))) (RPm.at (p := p + 1) (RPm.fl (k := 38) (((hP.fl (k := 37) (v := nI p) (by decide)).fl (k := 38) (v := nI 1) (by decide)).at (q := p + 1)) (by decide))) ((up2_k _ _ (by decide)).trans ((up2_k _ _ (by decide)).trans ((up2_k _ _ (by decide)).trans ((up2_k _ _ (by decide)).trans (up2_s _ _ _ _))))) ((up2_k _ _ (by decide)).trans (up2_s _ _ _ _)))
      · skip
        refine E_zN_ne (a := 0) (tgt := 81) dX12_readsTimes_52 (by decide) (by decide) (fun cw52 => absurd cw52 (by omega)) (fun cw52 => ?_)
        refine E_aload_n dX12_readsTimes_55 rfl ?_
        refine E_ic (nI 1) dX12_readsTimes_56 (by decide) ?_
        refine E_aload_n dX12_readsTimes_57 rfl ?_
        refine E_getI dX12_readsTimes_58 f_X12_136 rfl (Nat.lt_of_lt_of_le (by decide) hN) rfl ?_
        refine E.top (up2_s _ _ _ _) ?_
        refine E_callV (As := [_, _]) (ci := 11) (kc' := 0) (ks' := 0) (kc := 0) (ks := 0) dX12_readsTimes_61 ok_X12_wrongAt w_X12_149 i_X12_wrongAt s_X12_wrongAt rfl (by decide) rfl (Nat.lt_of_lt_of_le (by decide) hN) rfl rfl rfl (Nat.le_of_ble_eq_true rfl) (Nat.le_of_ble_eq_true rfl) (Nat.le_refl _) (m_wrongAt (k := 1) (q := p + 1) hN ?_)
        exact E_zret dX12_readsTimes_64 rfl (by decide) (by
                have e : tmR 1 c p = (0, p + 1) := ((if_pos rfl).trans ((if_pos ((ch_eq (by decide)).mp cw26)).trans (if_neg yn)))
                have e1 : (tmR 1 c p).1 = 0 := by rw [e]
                have e2 : (tmR 1 c p).2 = p + 1 := by rw [e]
                have hq := hQ0 e1
                rw [e2] at hq
                exact hq _ ((((RFm.up I (nI p) (by decide)).trans (RFm.up (up2 I 114 37 (nI p)) (nI 1) (by decide))).trans (RFm.up (up2 (up2 I 114 37 (nI p)) 114 38 (nI 1)) (nI (p + 1)) (by decide))).trans (RFm.up _ _ (by decide))) (up2_s _ _ _ _))
    · refine E_ic (nI 1) dX12_readsTimes_29 (by decide) ?_
      exact E_zret dX12_readsTimes_30 rfl (by decide) (by
              have e : tmR 1 c p = (1, p) := (if_pos rfl).trans (if_neg (fun z => cw26 ((ch_eq (by decide)).mpr z)))
              have e1 : (tmR 1 c p).1 = 1 := by rw [e]
              have e2 : (tmR 1 c p).2 = p := by rw [e]
              have hq := hQ1 (by rw [e1]; decide)
              rw [e1, e2] at hq
              exact hq _ ((RFm.up I (nI p) (by decide)).trans (RFm.up (up2 I 114 37 (nI p)) (nI 1) (by decide))) ((hP.fl (k := 37) (v := nI p) (by decide)).fl (k := 38) (v := nI 1) (by decide)) ((up2_k _ _ (by decide)).trans (up2_s _ _ _ _)) (up2_s _ _ _ _))
  · skip
    refine E_aload_n dX12_readsTimes_0 rfl ?_
    refine E_aload_n dX12_readsTimes_1 rfl ?_
    refine E_getI dX12_readsTimes_2 f_X12_136 rfl (Nat.lt_of_lt_of_le (by decide) hN) rfl ?_
    refine E.top (hP.1) ?_
    refine E_putI dX12_readsTimes_5 f_X12_242 rfl (Nat.lt_of_lt_of_le (by decide) hN) rfl ?_
    refine E_aload_n dX12_readsTimes_8 rfl ?_
    refine E_ic (nI 1) dX12_readsTimes_9 (by decide) ?_
    refine E_putI dX12_readsTimes_10 f_X12_245 rfl (Nat.lt_of_lt_of_le (by decide) hN) rfl ?_
    refine E_aload_n dX12_readsTimes_13 rfl ?_
    refine E_getI dX12_readsTimes_14 f_X12_248 rfl (Nat.lt_of_lt_of_le (by decide) hN) rfl ?_
    refine E.top ((((RFm.up I (nI p) (by decide)).trans (RFm.up (up2 I 114 37 (nI p)) (nI 1) (by decide))).2 39 (by unfold fkM; omega)).trans hC.2.2.1) ?_
    refine E_zN_eq (a := 0) (tgt := 65) dX12_readsTimes_17 (by decide) (by decide) (fun cw17 => ?_) (fun cw17 => absurd cw17 (by omega))
    refine E_aload_n dX12_readsTimes_65 rfl ?_
    refine E_callV (As := []) (ci := 11) (kc' := 0) (ks' := 0) (kc := 0) (ks := 0) dX12_readsTimes_66 ok_X12_here w_X12_142 i_X12_here s_X12_here rfl (by decide) rfl (Nat.lt_of_lt_of_le (by decide) hN) rfl rfl rfl (Nat.le_of_ble_eq_true rfl) (Nat.le_of_ble_eq_true rfl) (Nat.le_refl _) (m_here hN hR hc hL ((hC.keep ((RFm.up I (nI p) (by decide)).trans (RFm.up (up2 I 114 37 (nI p)) (nI 1) (by decide)))).1) ((hC.keep ((RFm.up I (nI p) (by decide)).trans (RFm.up (up2 I 114 37 (nI p)) (nI 1) (by decide)))).2.2.2) (p := p) (by omega) (((hP.fl (k := 37) (v := nI p) (by decide)).fl (k := 38) (v := nI 1) (by decide)).1) ?_)
    refine E_bp (nI 50) dX12_readsTimes_69 (by decide) ?_
    refine E_bp (nI 57) dX12_readsTimes_71 (by decide) ?_
    refine E_callS (As := [_, _, _]) (kc' := 0) (ks' := 0) (kc := 0) (ks := 0) dX12_readsTimes_73 ok_X12_in w_X12_124 st_X12_in rfl rfl rfl (Nat.le_of_ble_eq_true rfl) (Nat.le_of_ble_eq_true rfl) (Nat.le_refl _) (m_inC (by decide) (by decide) (fun y1 y2 => ?_) (fun yn => ?_))
    · skip
      refine E_zN_ne (a := 1) (tgt := 81) dX12_readsTimes_76 (by decide) (by decide) (fun cw76 => ?_) (fun cw76 => absurd cw76 (by omega))
      refine E_aload_n dX12_readsTimes_81 rfl ?_
      refine E_aload_n dX12_readsTimes_82 rfl ?_
      refine E_callV (As := []) (ci := 11) (kc' := 0) (ks' := 0) (kc := 0) (ks := 0) dX12_readsTimes_83 ok_X12_here w_X12_142 i_X12_here s_X12_here rfl (by decide) rfl (Nat.lt_of_lt_of_le (by decide) hN) rfl rfl rfl (Nat.le_of_ble_eq_true rfl) (Nat.le_of_ble_eq_true rfl) (Nat.le_refl _) (m_here hN hR hc hL ((hC.keep ((RFm.up I (nI p) (by decide)).trans (RFm.up (up2 I 114 37 (nI p)) (nI 1) (by decide)))).1) ((hC.keep ((RFm.up I (nI p) (by decide)).trans (RFm.up (up2 I 114 37 (nI p)) (nI 1) (by decide)))).2.2.2) (p := p) (by omega) (((hP.fl (k := 37) (v := nI p) (by decide)).fl (k := 38) (v := nI 1) (by decide)).1) ?_)
      refine E_bp (nI 48) dX12_readsTimes_86 (by decide) ?_
      refine E_isub dX12_readsTimes_88 ?_
      refine E.top (show chI (c (p)) - nI 48 = nI (c (p) - 48) by rw [show chI (c (p)) = nI (c (p)) from if_pos (by omega), pk_sub (by omega)]) ?_
      refine E_putI dX12_readsTimes_89 f_X12_245 rfl (Nat.lt_of_lt_of_le (by decide) hN) rfl ?_
      refine E_aload_n dX12_readsTimes_92 rfl ?_
      refine E_aload_n dX12_readsTimes_93 rfl ?_
      refine E_getI dX12_readsTimes_94 f_X12_136 rfl (Nat.lt_of_lt_of_le (by decide) hN) rfl ?_
      refine E.top ((up2_k _ _ (by decide)).trans ((hP.fl (k := 37) (v := nI p) (by decide)).fl (k := 38) (v := nI 1) (by decide)).1) ?_
      refine E_ic (nI 1) dX12_readsTimes_97 (by decide) ?_
      refine E_iadd dX12_readsTimes_98 ?_
      refine E.top (nI_add p 1) ?_
      refine E_putI dX12_readsTimes_99 f_X12_136 rfl (Nat.lt_of_lt_of_le (by decide) hN) rfl ?_
      refine E_ic (nI 1) dX12_readsTimes_102 (by decide) ?_
      exact E_zret dX12_readsTimes_103 rfl (by decide) (by
              have e : tmR 0 c p = (c (p) - 48, p + 1) := ((if_neg (by decide)).trans (if_pos ⟨y1, y2⟩))
              have e1 : (tmR 0 c p).1 = c (p) - 48 := by rw [e]
              have e2 : (tmR 0 c p).2 = p + 1 := by rw [e]
              have hq := hQ1 (by rw [e1]; omega)
              rw [e1, e2] at hq
              refine hq _ (((RFm.up I (nI p) (by decide)).trans (RFm.up (up2 I 114 37 (nI p)) (nI 1) (by decide))).trans ((RFm.up _ _ (by decide)).trans (RFm.up _ _ (by decide)))) (RPm.at (p := p) (RPm.fl (k := 38) ((hP.fl (k := 37) (v := nI p) (by decide)).fl (k := 38) (v := nI 1) (by decide)) (by decide))) ((up2_k _ _ (by decide)).trans ((up2_k _ _ (by decide)).trans ((up2_k _ _ (by decide)).trans (up2_s _ _ _ _)))) ((up2_k _ _ (by decide)).trans (up2_s _ _ _ _)))
    · skip
      refine E_zN_ne (a := 0) (tgt := 81) dX12_readsTimes_76 (by decide) (by decide) (fun cw76 => absurd cw76 (by omega)) (fun cw76 => ?_)
      refine E_ic (nI 1) dX12_readsTimes_79 (by decide) ?_
      exact E_zret dX12_readsTimes_80 rfl (by decide) (by
              have e : tmR 0 c p = (1, p) := (if_neg (by decide)).trans (if_neg yn)
              have e1 : (tmR 0 c p).1 = 1 := by rw [e]
              have e2 : (tmR 0 c p).2 = p := by rw [e]
              have hq := hQ1 (by rw [e1]; decide)
              rw [e1, e2] at hq
              exact hq _ ((RFm.up I (nI p) (by decide)).trans (RFm.up (up2 I 114 37 (nI p)) (nI 1) (by decide))) ((hP.fl (k := 37) (v := nI p) (by decide)).fl (k := 38) (v := nI 1) (by decide)) ((up2_k _ _ (by decide)).trans (up2_s _ _ _ _)) (up2_s _ _ _ _))
set_option maxRecDepth 100000 in
set_option maxHeartbeats 2000000 in
theorem m_repeats {a tm fr : Nat} (hN : 152 ≤ n) (hR : RS R) (hC : CTm t L most il I) (hm : most ≤ 96) (hs : s ≤ 97) (ha : a < s) (ht : 1 ≤ tm) (ht9 : tm ≤ 9) (hP : RPm st p s f I) (hQ : ROm I J R n Q (match finS most tm fr a p s f with | .inl x => .inl x | .inr r => .inr (st, r.1, r.2.1, r.2.2))) : E g mX12_repeats (d + 1) 0 0 0 (ent 6 [.ref 114, .int (nI a), .int (nI tm), .int (nI fr)]) [] n I J R Q := by
  have hx : s - a ≤ (s - a) * tm := Nat.le_mul_of_pos_right _ ht
  have hy : (s - a) * tm ≤ 97 * 9 := Nat.mul_le_mul (by omega) ht9
  refine E_aload_n dX12_repeats_0 rfl ?_
  refine E_getI dX12_repeats_1 f_X12_252 rfl (Nat.lt_of_lt_of_le (by decide) hN) rfl ?_
  refine E.top (hP.2.1) ?_
  refine E_iload_n dX12_repeats_4 rfl ?_
  refine E_isub dX12_repeats_5 ?_
  refine E.top (pk_sub (a := s) (b := a) (by omega)) ?_
  refine E_istore dX12_repeats_6 (Nat.le_of_ble_eq_true rfl) ?_
  refine E_iload_n dX12_repeats_8 rfl ?_
  refine E_iload dX12_repeats_9 rfl ?_
  refine E_iload_n dX12_repeats_11 rfl ?_
  refine E_imul dX12_repeats_12 ?_
  refine E.top (pk_mul (s - a) tm) ?_
  refine E_iadd dX12_repeats_13 ?_
  refine E.top (nI_add a ((s - a) * tm)) ?_
  refine E_aload_n dX12_repeats_14 rfl ?_
  refine E_getI dX12_repeats_15 f_X12_255 rfl (Nat.lt_of_lt_of_le (by decide) hN) rfl ?_
  refine E.top (hC.2.1) ?_
  refine E_cN_le (a := a + ((s - a) * tm)) (b := most) (tgt := 29) dX12_repeats_18 (by omega) (by omega) (by decide) (fun cw18 => ?_) (fun cw18 => ?_)
  · have L : ∀ k, k ≤ ((s - a) * tm - (s - a)) → ∀ I2 : IM, ((∀ x, x ≠ 135 → I2 x = I x) ∧ ∀ i, i < s + k → I2 135 i = nI (rpF f (s - a) s k i)) → E g mX12_repeats (d + 1) 0 0 33 [.ref 114, .int (nI a), .int (nI tm), .int (nI fr), .int (nI (s - a)), .int (nI (s - a + k))] [] n I2 J R Q := by
      refine loopU ((s - a) * tm - (s - a)) (fun I2 hv => ?_) (fun k hk ih I2 hv => ?_)
      · refine E_iload dX12_repeats_33 rfl ?_
        refine E_iload dX12_repeats_35 rfl ?_
        refine E_iload_n dX12_repeats_37 rfl ?_
        refine E_imul dX12_repeats_38 ?_
        refine E.top (pk_mul (s - a) tm) ?_
        refine E_cN_ge (a := s - a + ((s - a) * tm - (s - a))) (b := (s - a) * tm) (tgt := 69) dX12_repeats_39 (by omega) (by omega) (by decide) (fun cw39 => ?_) (fun cw39 => absurd cw39 (by omega))
        refine E_aload_n dX12_repeats_69 rfl ?_
        refine E_iload_n dX12_repeats_70 rfl ?_
        refine E_iload dX12_repeats_71 rfl ?_
        refine E_iload_n dX12_repeats_73 rfl ?_
        refine E_imul dX12_repeats_74 ?_
        refine E.top (pk_mul (s - a) tm) ?_
        refine E_iadd dX12_repeats_75 ?_
        refine E.top (nI_add a ((s - a) * tm)) ?_
        refine E_putI dX12_repeats_76 f_X12_252 rfl (Nat.lt_of_lt_of_le (by decide) hN) rfl ?_
        refine E_ic (nI 1) dX12_repeats_79 (by decide) ?_
        exact E_zret dX12_repeats_80 rfl (by decide) (by
              have hq : ROm I J R n Q (.inr (st, p, a + (s - a) * tm, rpF f (s - a) s ((s - a) * tm - (s - a)))) := by rw [show finS most tm fr a p s f = .inr (p, a + (s - a) * tm, rpF f (s - a) s ((s - a) * tm - (s - a))) from if_neg (by omega)] at hQ; exact hQ
              exact hq _ ⟨fun x a1 a2 a3 a4 a5 => (up2_o I2 114 _ _ x a1).trans (hv.1 x a2), fun j hj => (up2_k I2 _ (by unfold fkM at hj; omega)).trans (congrFun (hv.1 114 (by decide)) j)⟩ ⟨(up2_k I2 _ (by decide)).trans ((congrFun (hv.1 114 (by decide)) 8).trans hP.1), up2_s _ _ _ _, fun i hi => (congrFun (up2_o I2 114 _ _ 135 (by decide)) i).trans (hv.2 i (by have : i < a + (s - a) * tm := hi; omega)), (up2_k I2 _ (by decide)).trans ((congrFun (hv.1 114 (by decide)) 36).trans hP.2.2.2.1), hP.2.2.2.2.congr ((up2_o I2 114 _ _ 136 (by decide)).trans (hv.1 136 (by decide))) ((up2_o I2 114 _ _ 137 (by decide)).trans (hv.1 137 (by decide))) ((up2_o I2 114 _ _ 138 (by decide)).trans (hv.1 138 (by decide)))⟩)
      · refine E_iload dX12_repeats_33 rfl ?_
        refine E_iload dX12_repeats_35 rfl ?_
        refine E_iload_n dX12_repeats_37 rfl ?_
        refine E_imul dX12_repeats_38 ?_
        refine E.top (pk_mul (s - a) tm) ?_
        refine E_cN_ge (a := s - a + k) (b := (s - a) * tm) (tgt := 69) dX12_repeats_39 (by omega) (by omega) (by decide) (fun cw39 => absurd cw39 (by omega)) (fun cw39 => ?_)
        refine E_aload_n dX12_repeats_42 rfl ?_
        refine E_getR dX12_repeats_43 f_X12_71 rfl (Nat.lt_of_lt_of_le (by decide) hN) rfl (hR _ _ _ rfl) ?_
        refine E_iload_n dX12_repeats_46 rfl ?_
        refine E_iload dX12_repeats_47 rfl ?_
        refine E_iadd dX12_repeats_49 ?_
        refine E.top (nI_add a (s - a + k)) ?_
        refine E.top (congrArg nI (show a + (s - a + k) = s + k by omega)) ?_
        refine E_aload_n dX12_repeats_50 rfl ?_
        refine E_getR dX12_repeats_51 f_X12_71 rfl (Nat.lt_of_lt_of_le (by decide) hN) rfl (hR _ _ _ rfl) ?_
        refine E_iload_n dX12_repeats_54 rfl ?_
        refine E_iload dX12_repeats_55 rfl ?_
        refine E_iadd dX12_repeats_57 ?_
        refine E.top (nI_add a (s - a + k)) ?_
        refine E.top (congrArg nI (show a + (s - a + k) = s + k by omega)) ?_
        refine E_iload dX12_repeats_58 rfl ?_
        refine E_isub dX12_repeats_60 ?_
        refine E.top (pk_sub (a := s + k) (b := s - a) (by omega)) ?_
        refine E_ialdN dX12_repeats_61 rfl (Nat.lt_of_lt_of_le (by decide) hN) (by omega) ?_
        refine E.top (hv.2 _ (by omega)) ?_
        refine E_iastN dX12_repeats_62 rfl (Nat.lt_of_lt_of_le (by decide) hN) (by omega) ?_
        refine E_incN dX12_repeats_63 rfl ?_
        refine E_goto (tgt := 33) dX12_repeats_66 (by decide) ?_
        refine ih _ ⟨fun x hx => (up2_o I2 135 _ _ x hx).trans (hv.1 x hx), fun i hi => ?_⟩
        show up2 I2 135 _ _ 135 i = nI (up1 (rpF f (s - a) s k) (s + k) (rpF f (s - a) s k (s + k - (s - a))) i)
        by_cases e : i = s + k
        · subst e
          rw [show up1 (rpF f (s - a) s k) (s + k) (rpF f (s - a) s k (s + k - (s - a))) (s + k) = rpF f (s - a) s k (s + k - (s - a)) from if_pos rfl]
          exact up2_s _ _ _ _
        · rw [show up1 (rpF f (s - a) s k) (s + k) (rpF f (s - a) s k (s + k - (s - a))) i = rpF f (s - a) s k i from if_neg e, up2_k _ _ e]
          exact hv.2 i (by omega)
    refine E_iload dX12_repeats_29 rfl ?_
    refine E_istore dX12_repeats_31 (Nat.le_of_ble_eq_true rfl) ?_
    exact L 0 (Nat.zero_le _) I ⟨fun _ _ => rfl, hP.2.2.1⟩
  · refine E_aload_n dX12_repeats_21 rfl ?_
    refine E_bp (nI 6) dX12_repeats_22 (by decide) ?_
    refine E_iload_n dX12_repeats_24 rfl ?_
    refine E_callV (As := [_, _]) (ci := 11) (kc' := 0) (ks' := 0) (kc := 0) (ks := 0) dX12_repeats_25 ok_X12_wrongAt w_X12_149 i_X12_wrongAt s_X12_wrongAt rfl (by decide) rfl (Nat.lt_of_lt_of_le (by decide) hN) rfl rfl rfl (Nat.le_of_ble_eq_true rfl) (Nat.le_of_ble_eq_true rfl) (Nat.le_refl _) (m_wrongAt (k := 6) (q := fr) hN ?_)
    exact E_zret dX12_repeats_28 rfl (by decide) (by have hq : ROm I J R n Q (.inl (flt 6 fr)) := (by rw [show finS most tm fr a p s f = .inl (flt 6 fr) from if_pos cw18] at hQ; exact hQ); exact hq _ (RFm.up _ _ (by decide)) (up2_s _ _ _ _))
end PRoundsM2
