/-! ===== the law's text, as the reference reads it ===== -/
def CLm (t : Nat → Nat) (L : Nat) (I : IM) : Prop := I 114 9 = nI L ∧ ∀ j, j < L → I 121 j &&& 255 = nI (t j)
def fkQ (j : Nat) : Prop := j < 8 ∨ j = 9 ∨ 14 < j
def FLm (I I' : IM) : Prop := (∀ x, x ≠ 114 → x ≠ 122 → x ≠ 123 → I' x = I x) ∧ ∀ j, fkQ j → I' 114 j = I 114 j
/-- the stack of what waits -/
def SKl (I : IM) : WK → Prop
  | [] => True
  | e :: K => I 123 K.length = nI (1048576 * e.1 + e.2) ∧ SKl I K
def PLm (k : Nat) (K : WK) (q : TS) (I : IM) : Prop := I 114 8 = nI q.1 ∧ I 114 13 = nI q.2.1 ∧ (∀ i, i < q.2.1 → I 122 i = nI (1048576 * (q.2.2 i).1 + (q.2.2 i).2)) ∧ I 114 12 = nI (6 - k) ∧ I 114 14 = nI K.length ∧ SKl I K
def okV (K : WK) : Prop := ∀ e, e ∈ K → e.1 ≤ 14 ∧ e.2 < 1048576
theorem okV.tl {e : Nat × Nat} {K : WK} (h : okV (e :: K)) : okV K := fun x hx => h x (List.mem_cons_of_mem _ hx)
theorem FLm.refl (I : IM) : FLm I I := ⟨fun _ _ _ _ => rfl, fun _ _ => rfl⟩
theorem FLm.trans {I I' I2 : IM} (h : FLm I I') (h2 : FLm I' I2) : FLm I I2 := ⟨fun x a b c => (h2.1 x a b c).trans (h.1 x a b c), fun j a => (h2.2 j a).trans (h.2 j a)⟩
theorem FLm.up (I : IM) {k : Nat} (v : Int32) (h : k = 8 ∨ (10 ≤ k ∧ k ≤ 14)) : FLm I (up2 I 114 k v) := ⟨fun x a _ _ => up2_o I 114 k v x a, fun j hj => up2_k I v (by unfold fkQ at hj; omega)⟩
theorem FLm.row (I : IM) {a : Nat} (k : Nat) (v : Int32) (h : a = 122 ∨ a = 123) : FLm I (up2 I a k v) := ⟨fun x _ b c => up2_o I a k v x (by omega), fun j _ => congrFun (up2_o I a k v 114 (by omega)) j⟩
theorem CLm.keep {t : Nat → Nat} {L : Nat} {I I' : IM} (h : CLm t L I) (f : FLm I I') : CLm t L I' := ⟨(f.2 9 (by unfold fkQ; omega)).trans h.1, fun j hj => by rw [f.1 121 (by decide) (by decide) (by decide)]; exact h.2 j hj⟩
theorem SKl.low {I I' : IM} : ∀ {K : WK}, SKl I K → (∀ j, j < K.length → I' 123 j = I 123 j) → SKl I' K
  | [], _, _ => trivial
  | e :: K, h, f => ⟨(f K.length (Nat.lt_succ_self _)).trans h.1, SKl.low h.2 (fun j hj => f j (Nat.lt_succ_of_lt hj))⟩
theorem SKl.at {I : IM} {e : Nat × Nat} {v : WK} : ∀ {u : WK}, SKl I (u ++ e :: v) → I 123 v.length = nI (1048576 * e.1 + e.2)
  | [], h => h.1
  | _ :: u, h => SKl.at (u := u) h.2
theorem PLm.at {k : Nat} {K : WK} {q : TS} {I : IM} (h : PLm k K q I) (p : Nat) : PLm k K (p, q.2) (up2 I 114 8 (nI p)) := ⟨up2_s _ _ _ _, (up2_k I _ (by decide)).trans h.2.1, fun i hi => (congrFun (up2_o I 114 8 _ 122 (by decide)) i).trans (h.2.2.1 i hi), (up2_k I _ (by decide)).trans h.2.2.2.1, (up2_k I _ (by decide)).trans h.2.2.2.2.1, h.2.2.2.2.2.low (fun j _ => congrFun (up2_o I 114 8 _ 123 (by decide)) j)⟩
theorem PLm.f {k : Nat} {K : WK} {q : TS} {I : IM} (h : PLm k K q I) {j : Nat} (v : Int32) (hj : j = 10 ∨ j = 11) : PLm k K q (up2 I 114 j v) := ⟨(up2_k I _ (by omega)).trans h.1, (up2_k I _ (by omega)).trans h.2.1, fun i hi => (congrFun (up2_o I 114 j _ 122 (by decide)) i).trans (h.2.2.1 i hi), (up2_k I _ (by omega)).trans h.2.2.2.1, (up2_k I _ (by omega)).trans h.2.2.2.2.1, h.2.2.2.2.2.low (fun i _ => congrFun (up2_o I 114 j _ 123 (by decide)) i)⟩
/-- one taken off -/
theorem PLm.pop {k : Nat} {e : Nat × Nat} {K : WK} {q : TS} {I : IM} (h : PLm k (e :: K) q I) : PLm k K q (up2 I 114 14 (nI K.length)) := ⟨(up2_k I _ (by decide)).trans h.1, (up2_k I _ (by decide)).trans h.2.1, fun i hi => (congrFun (up2_o I 114 14 _ 122 (by decide)) i).trans (h.2.2.1 i hi), (up2_k I _ (by decide)).trans h.2.2.2.1, up2_s _ _ _ _, h.2.2.2.2.2.2.low (fun j _ => congrFun (up2_o I 114 14 _ 123 (by decide)) j)⟩
theorem PLm.op {k k2 : Nat} {K : WK} {q : TS} {I : IM} (h : PLm k K q I) : PLm k2 K q (up2 I 114 12 (nI (6 - k2))) := ⟨(up2_k I _ (by decide)).trans h.1, (up2_k I _ (by decide)).trans h.2.1, fun i hi => (congrFun (up2_o I 114 12 _ 122 (by decide)) i).trans (h.2.2.1 i hi), up2_s _ _ _ _, (up2_k I _ (by decide)).trans h.2.2.2.2.1, h.2.2.2.2.2.low (fun j _ => congrFun (up2_o I 114 12 _ 123 (by decide)) j)⟩
/-- one put on -/
theorem PLm.push {k : Nat} {K : WK} {q : TS} {I : IM} (h : PLm k K q I) (e : Nat × Nat) : PLm k (e :: K) q (up2 (up2 I 123 K.length (nI (1048576 * e.1 + e.2))) 114 14 (nI (K.length + 1))) := ⟨(up2_k _ _ (by decide)).trans ((congrFun (up2_o I 123 _ _ 114 (by decide)) 8).trans h.1), (up2_k _ _ (by decide)).trans ((congrFun (up2_o I 123 _ _ 114 (by decide)) 13).trans h.2.1), fun i hi => (congrFun (up2_o _ 114 14 _ 122 (by decide)) i).trans ((congrFun (up2_o I 123 _ _ 122 (by decide)) i).trans (h.2.2.1 i hi)), (up2_k _ _ (by decide)).trans ((congrFun (up2_o I 123 _ _ 114 (by decide)) 12).trans h.2.2.2.1), up2_s _ _ _ _, (congrFun (up2_o _ 114 14 _ 123 (by decide)) _).trans (up2_s _ _ _ _), h.2.2.2.2.2.low (fun j hj => (congrFun (up2_o _ 114 14 _ 123 (by decide)) j).trans (up2_k _ _ (by omega)))⟩
def wtT : WK → Int32
  | [] => -1
  | e :: _ => nI e.1
section PLawM
variable {g : GL} {d n : Nat} {I : IM} {J : JM} {R : RM} {Q : PQ} {t c : Nat → Nat} {L p k : Nat} {K : WK} {q : TS}
set_option maxRecDepth 100000 in
set_option maxHeartbeats 2000000 in
theorem m_isDigitL (hN : 152 ≤ n) (hR : RS R) (hc : okc t L c) (hL : L ≤ 240) (hC : CLm t L I) (hp : p < 1000) (h8 : I 114 8 = nI p) (ht : 48 ≤ c p → c p ≤ 57 → Q (some (.int 1)) n I J R) (hf : ¬ (48 ≤ c p ∧ c p ≤ 57) → Q (some (.int 0)) n I J R) : E g mX12_isDigit (d + 1) 0 0 0 (ent 1 [.ref 114]) [] n I J R Q := by
  refine E_aload_n dX12_isDigit_0 rfl ?_
  refine E_callV (As := []) (ci := 11) (kc' := 0) (ks' := 0) (kc := 0) (ks := 0) dX12_isDigit_1 ok_X12_here w_X12_142 i_X12_here s_X12_here rfl (by decide) rfl (Nat.lt_of_lt_of_le (by decide) hN) rfl rfl rfl (Nat.le_of_ble_eq_true rfl) (Nat.le_of_ble_eq_true rfl) (by omega) (m_here (d := 0) hN hR hc (Nat.le_trans hL (by decide)) hC.1 hC.2 (p := p) (by omega) (h8) ?_)
  refine E_bp (nI 48) dX12_isDigit_4 (by decide) ?_
  refine E_icmp_lt (tgt := 22) dX12_isDigit_6 (by decide) (fun cw6 => ?_) (fun cw6 => ?_)
  · refine E_ic (nI 0) dX12_isDigit_22 (by decide) ?_
    exact E_zret dX12_isDigit_23 rfl (by decide) (by first | exact hf (fun z => by have := (ch_lt (k := 48) (by decide)).mp cw6; omega) | exact hf (fun z => by have := (ch_gt (k := 57) (by decide)).mp cw15; omega) | exact ht (by have a1 : ¬ (c p < 48 ∨ 256 ≤ c p) := fun z => cw6 ((ch_lt (k := 48) (by decide)).mpr z); omega) (by have a1 : ¬ (c p < 48 ∨ 256 ≤ c p) := fun z => cw6 ((ch_lt (k := 48) (by decide)).mpr z); have b1 : ¬ (57 < c p ∧ c p < 256) := fun z => cw15 ((ch_gt (k := 57) (by decide)).mpr z); omega))
  · refine E_aload_n dX12_isDigit_9 rfl ?_
    refine E_callV (As := []) (ci := 11) (kc' := 0) (ks' := 0) (kc := 0) (ks := 0) dX12_isDigit_10 ok_X12_here w_X12_142 i_X12_here s_X12_here rfl (by decide) rfl (Nat.lt_of_lt_of_le (by decide) hN) rfl rfl rfl (Nat.le_of_ble_eq_true rfl) (Nat.le_of_ble_eq_true rfl) (by omega) (m_here (d := 0) hN hR hc (Nat.le_trans hL (by decide)) hC.1 hC.2 (p := p) (by omega) (h8) ?_)
    refine E_bp (nI 57) dX12_isDigit_13 (by decide) ?_
    refine E_icmp_gt (tgt := 22) dX12_isDigit_15 (by decide) (fun cw15 => ?_) (fun cw15 => ?_)
    · refine E_ic (nI 0) dX12_isDigit_22 (by decide) ?_
      exact E_zret dX12_isDigit_23 rfl (by decide) (by first | exact hf (fun z => by have := (ch_lt (k := 48) (by decide)).mp cw6; omega) | exact hf (fun z => by have := (ch_gt (k := 57) (by decide)).mp cw15; omega) | exact ht (by have a1 : ¬ (c p < 48 ∨ 256 ≤ c p) := fun z => cw6 ((ch_lt (k := 48) (by decide)).mpr z); omega) (by have a1 : ¬ (c p < 48 ∨ 256 ≤ c p) := fun z => cw6 ((ch_lt (k := 48) (by decide)).mpr z); have b1 : ¬ (57 < c p ∧ c p < 256) := fun z => cw15 ((ch_gt (k := 57) (by decide)).mpr z); omega))
    · refine E_ic (nI 1) dX12_isDigit_18 (by decide) ?_
      refine E_goto (tgt := 23) dX12_isDigit_19 (by decide) ?_
      exact E_zret dX12_isDigit_23 rfl (by decide) (by first | exact hf (fun z => by have := (ch_lt (k := 48) (by decide)).mp cw6; omega) | exact hf (fun z => by have := (ch_gt (k := 57) (by decide)).mp cw15; omega) | exact ht (by have a1 : ¬ (c p < 48 ∨ 256 ≤ c p) := fun z => cw6 ((ch_lt (k := 48) (by decide)).mpr z); omega) (by have a1 : ¬ (c p < 48 ∨ 256 ≤ c p) := fun z => cw6 ((ch_lt (k := 48) (by decide)).mpr z); have b1 : ¬ (57 < c p ∧ c p < 256) := fun z => cw15 ((ch_gt (k := 57) (by decide)).mpr z); omega))
set_option maxRecDepth 100000 in
set_option maxHeartbeats 2000000 in
theorem m_notes {op v : Nat} (hN : 152 ≤ n) (hR : RS R) (hs : q.2.1 < 260) (hP : PLm k K q I) (hQ : ∀ I2 : IM, FLm I I2 → PLm k K (q.1, q.2.1 + 1, cdU q.2.2 q.2.1 (op, v)) I2 → Q none n I2 J R) : E g mX12_notes d 0 0 0 (ent 3 [.ref 114, .int (nI op), .int (nI v)]) [] n I J R Q := by
  refine E_aload_n dX12_notes_0 rfl ?_
  refine E_getR dX12_notes_1 f_X12_32 rfl (Nat.lt_of_lt_of_le (by decide) hN) rfl (hR _ _ _ rfl) ?_
  refine E_aload_n dX12_notes_4 rfl ?_
  refine E_getI dX12_notes_5 f_X12_160 rfl (Nat.lt_of_lt_of_le (by decide) hN) rfl ?_
  refine E.top (hP.2.1) ?_
  refine E_ldc (nI 1048576) dX12_notes_8 k_X12_163 ?_
  refine E_iload_n dX12_notes_10 rfl ?_
  refine E_imul dX12_notes_11 ?_
  refine E.top (pk_mul 1048576 op) ?_
  refine E_iload_n dX12_notes_12 rfl ?_
  refine E_iadd dX12_notes_13 ?_
  refine E.top (nI_add (1048576 * op) v) ?_
  refine E_iastN dX12_notes_14 rfl (Nat.lt_of_lt_of_le (by decide) hN) (by omega) ?_
  refine E_aload_n dX12_notes_15 rfl ?_
  refine E_aload_n dX12_notes_16 rfl ?_
  refine E_getI dX12_notes_17 f_X12_160 rfl (Nat.lt_of_lt_of_le (by decide) hN) rfl ?_
  refine E.top ((congrFun (up2_o _ 122 _ _ 114 (by decide)) 13).trans hP.2.1) ?_
  refine E_ic (nI 1) dX12_notes_20 (by decide) ?_
  refine E_iadd dX12_notes_21 ?_
  refine E.top (nI_add (q.2.1) 1) ?_
  refine E_putI dX12_notes_22 f_X12_160 rfl (Nat.lt_of_lt_of_le (by decide) hN) rfl ?_
  exact E_ret dX12_notes_25 rfl (hQ _ ((FLm.row I _ _ (by decide)).trans (FLm.up _ _ (by decide))) ⟨(up2_k _ _ (by decide)).trans ((congrFun (up2_o I 122 _ _ 114 (by decide)) 8).trans hP.1), up2_s _ _ _ _, fun i hi => by
      rw [up2_o _ 114 _ _ 122 (by decide)]
      show up2 I 122 q.2.1 (nI (1048576 * op + v)) 122 i = nI (1048576 * (cdU q.2.2 q.2.1 (op, v) i).1 + (cdU q.2.2 q.2.1 (op, v) i).2)
      have hi : i < q.2.1 + 1 := hi
      by_cases e : i = q.2.1
      · rw [e, cdU_s, up2_s]
      · rw [cdU_n e, up2_k _ _ e]
        exact hP.2.2.1 i (by omega), (up2_k _ _ (by decide)).trans ((congrFun (up2_o I 122 _ _ 114 (by decide)) 12).trans hP.2.2.2.1), (up2_k _ _ (by decide)).trans ((congrFun (up2_o I 122 _ _ 114 (by decide)) 14).trans hP.2.2.2.2.1), hP.2.2.2.2.2.low (fun j _ => (congrFun (up2_o _ 114 _ _ 123 (by decide)) j).trans (congrFun (up2_o I 122 _ _ 123 (by decide)) j))⟩)
set_option maxRecDepth 100000 in
set_option maxHeartbeats 2000000 in
theorem m_opens0 {x : Nat} (hd : 1 ≤ d) (hN : 152 ≤ n) (hR : RS R) (hP : PLm 0 K q I) (hQ : Q (some (.int 0)) n (up2 I 114 10 (flt 5 q.1)) J R) : E g mX12_opens d 0 0 0 (ent 2 [.ref 114, .int (nI x)]) [] n I J R Q := by
  refine E_aload_n dX12_opens_0 rfl ?_
  refine E_getI dX12_opens_1 f_X12_164 rfl (Nat.lt_of_lt_of_le (by decide) hN) rfl ?_
  refine E.top (hP.2.2.2.1) ?_
  refine E_bp (nI 6) dX12_opens_4 (by decide) ?_
  refine E_cN_ne (a := 6 - 0) (b := 6) (tgt := 19) dX12_opens_6 (by omega) (by decide) (by decide) (fun cw6 => absurd cw6 (by omega)) (fun cw6 => ?_)
  refine E_aload_n dX12_opens_9 rfl ?_
  refine E_ic (nI 5) dX12_opens_10 (by decide) ?_
  refine E_aload_n dX12_opens_11 rfl ?_
  refine E_getI dX12_opens_12 f_X12_136 rfl (Nat.lt_of_lt_of_le (by decide) hN) rfl ?_
  refine E.top (hP.1) ?_
  refine E_callV (As := [_, _]) (ci := 11) (kc' := 0) (ks' := 0) (kc := 0) (ks := 0) dX12_opens_15 ok_X12_wrongAt w_X12_149 i_X12_wrongAt s_X12_wrongAt rfl (by decide) rfl (Nat.lt_of_lt_of_le (by decide) hN) rfl rfl rfl (Nat.le_of_ble_eq_true rfl) (Nat.le_of_ble_eq_true rfl) (by omega) (m_wrongAt (d := 0) (k := 5) (q := q.1) hN ?_)
  exact E_zret dX12_opens_18 rfl (by decide) (hQ)
set_option maxRecDepth 100000 in
set_option maxHeartbeats 2000000 in
theorem m_opens1 {x : Nat} (hk : k ≤ 5) (hN : 152 ≤ n) (hR : RS R) (hl : K.length < 260) (hP : PLm (k + 1) K q I) (hQ : ∀ I2 : IM, FLm I I2 → PLm k ((x, 0) :: K) (q.1 + 1, q.2) I2 → Q (some (.int 1)) n I2 J R) : E g mX12_opens d 0 0 0 (ent 2 [.ref 114, .int (nI x)]) [] n I J R Q := by
  refine E_aload_n dX12_opens_0 rfl ?_
  refine E_getI dX12_opens_1 f_X12_164 rfl (Nat.lt_of_lt_of_le (by decide) hN) rfl ?_
  refine E.top (hP.2.2.2.1) ?_
  refine E_bp (nI 6) dX12_opens_4 (by decide) ?_
  refine E_cN_ne (a := 6 - (k + 1)) (b := 6) (tgt := 19) dX12_opens_6 (by omega) (by decide) (by decide) (fun cw6 => ?_) (fun cw6 => absurd cw6 (by omega))
  refine E_aload_n dX12_opens_19 rfl ?_
  refine E_aload_n dX12_opens_20 rfl ?_
  refine E_getI dX12_opens_21 f_X12_164 rfl (Nat.lt_of_lt_of_le (by decide) hN) rfl ?_
  refine E.top (hP.2.2.2.1) ?_
  refine E_ic (nI 1) dX12_opens_24 (by decide) ?_
  refine E_iadd dX12_opens_25 ?_
  refine E.top (nI_add (6 - (k + 1)) 1) ?_
  refine E.top (congrArg nI (show 6 - (k + 1) + 1 = 6 - k by omega)) ?_
  refine E_putI dX12_opens_26 f_X12_164 rfl (Nat.lt_of_lt_of_le (by decide) hN) rfl ?_
  refine E_aload_n dX12_opens_29 rfl ?_
  refine E_getR dX12_opens_30 f_X12_35 rfl (Nat.lt_of_lt_of_le (by decide) hN) rfl (hR _ _ _ rfl) ?_
  refine E_aload_n dX12_opens_33 rfl ?_
  refine E_getI dX12_opens_34 f_X12_167 rfl (Nat.lt_of_lt_of_le (by decide) hN) rfl ?_
  refine E.top ((up2_k _ _ (by decide)).trans hP.2.2.2.2.1) ?_
  refine E_ldc (nI 1048576) dX12_opens_37 k_X12_163 ?_
  refine E_iload_n dX12_opens_39 rfl ?_
  refine E_imul dX12_opens_40 ?_
  refine E.top (pk_mul 1048576 x) ?_
  refine E_iastN dX12_opens_41 rfl (Nat.lt_of_lt_of_le (by decide) hN) (by omega) ?_
  refine E_aload_n dX12_opens_42 rfl ?_
  refine E_aload_n dX12_opens_43 rfl ?_
  refine E_getI dX12_opens_44 f_X12_167 rfl (Nat.lt_of_lt_of_le (by decide) hN) rfl ?_
  refine E.top ((congrFun (up2_o _ 123 _ _ 114 (by decide)) 14).trans ((up2_k _ _ (by decide)).trans hP.2.2.2.2.1)) ?_
  refine E_ic (nI 1) dX12_opens_47 (by decide) ?_
  refine E_iadd dX12_opens_48 ?_
  refine E.top (nI_add (K.length) 1) ?_
  refine E_putI dX12_opens_49 f_X12_167 rfl (Nat.lt_of_lt_of_le (by decide) hN) rfl ?_
  refine E_aload_n dX12_opens_52 rfl ?_
  refine E_aload_n dX12_opens_53 rfl ?_
  refine E_getI dX12_opens_54 f_X12_136 rfl (Nat.lt_of_lt_of_le (by decide) hN) rfl ?_
  refine E.top ((((hP.op (k2 := k)).push (x, 0)).1)) ?_
  refine E_ic (nI 1) dX12_opens_57 (by decide) ?_
  refine E_iadd dX12_opens_58 ?_
  refine E.top (nI_add (q.1) 1) ?_
  refine E_putI dX12_opens_59 f_X12_136 rfl (Nat.lt_of_lt_of_le (by decide) hN) rfl ?_
  refine E_ic (nI 1) dX12_opens_62 (by decide) ?_
  exact E_zret dX12_opens_63 rfl (by decide) (hQ _ (((FLm.up I _ (by decide)).trans ((FLm.row _ _ _ (by decide)).trans (FLm.up _ _ (by decide)))).trans (FLm.up _ _ (by decide))) (((hP.op (k2 := k)).push (x, 0)).at (q.1 + 1)))
set_option maxRecDepth 100000 in
set_option maxHeartbeats 2000000 in
theorem m_waitTop (hN : 152 ≤ n) (hR : RS R) (hv : okV K) (hl : K.length < 260) (hP : PLm k K q I) (hQ : Q (some (.int (wtT K))) n I J R) : E g mX12_waitTop d 0 0 0 (ent 1 [.ref 114]) [] n I J R Q := by
  cases K with
  | nil =>
    have hQ : Q (some (.int (-1))) n I J R := hQ
    refine E_aload_n dX12_waitTop_0 rfl ?_
    refine E_getI dX12_waitTop_1 f_X12_167 rfl (Nat.lt_of_lt_of_le (by decide) hN) rfl ?_
    refine E.top (hP.2.2.2.2.1) ?_
    refine E_zN_ne (a := 0) (tgt := 11) dX12_waitTop_4 (by decide) (by decide) (fun cw4 => absurd cw4 (by omega)) (fun cw4 => ?_)
    refine E_ic (-1) dX12_waitTop_7 (by decide) ?_
    refine E_goto (tgt := 25) dX12_waitTop_8 (by decide) ?_
    exact E_iret dX12_waitTop_25 rfl (hQ)
  | cons e K =>
    have hQ : Q (some (.int (nI e.1))) n I J R := hQ
    obtain ⟨v1, v2⟩ := hv e List.mem_cons_self
    have hl : K.length + 1 < 260 := hl
    refine E_aload_n dX12_waitTop_0 rfl ?_
    refine E_getI dX12_waitTop_1 f_X12_167 rfl (Nat.lt_of_lt_of_le (by decide) hN) rfl ?_
    refine E.top (hP.2.2.2.2.1) ?_
    refine E_zN_ne (a := K.length + 1) (tgt := 11) dX12_waitTop_4 (by omega) (by decide) (fun cw4 => ?_) (fun cw4 => absurd cw4 (by omega))
    refine E_aload_n dX12_waitTop_11 rfl ?_
    refine E_getR dX12_waitTop_12 f_X12_35 rfl (Nat.lt_of_lt_of_le (by decide) hN) rfl (hR _ _ _ rfl) ?_
    refine E_aload_n dX12_waitTop_15 rfl ?_
    refine E_getI dX12_waitTop_16 f_X12_167 rfl (Nat.lt_of_lt_of_le (by decide) hN) rfl ?_
    refine E.top (hP.2.2.2.2.1) ?_
    refine E_ic (nI 1) dX12_waitTop_19 (by decide) ?_
    refine E_isub dX12_waitTop_20 ?_
    refine E.top (pk_sub (a := K.length + 1) (b := 1) (by omega)) ?_
    refine E.top (congrArg nI (show K.length + 1 - 1 = K.length from rfl)) ?_
    refine E_ialdN dX12_waitTop_21 rfl (Nat.lt_of_lt_of_le (by decide) hN) (by omega) ?_
    refine E.top (hP.2.2.2.2.2.1) ?_
    refine E_ldc (nI 1048576) dX12_waitTop_22 k_X12_163 ?_
    refine E_idiv dX12_waitTop_24 (by decide) ?_
    refine E.top (pk_div (a := 1048576 * e.1 + e.2) (d := 1048576) (by omega) (by decide) (by decide)) ?_
    refine E.top (congrArg nI (show (1048576 * e.1 + e.2) / 1048576 = e.1 by omega)) ?_
    exact E_iret dX12_waitTop_25 rfl (hQ)
set_option maxRecDepth 100000 in
set_option maxHeartbeats 2000000 in
theorem m_sumSign {x : Nat} (hQ : Q (some (.int (if sgL x = 0 then -1 else nI (sgL x)))) n I J R) : E g mX12_sumSign d 0 0 0 (ent 1 [.int (chI x)]) [] n I J R Q := by
  refine E_iload_n dX12_sumSign_0 rfl ?_
  refine E_bp (nI 43) dX12_sumSign_1 (by decide) ?_
  refine E_icmp_ne (tgt := 10) dX12_sumSign_3 (by decide) (fun cw3 => ?_) (fun cw3 => ?_)
  · refine E_iload_n dX12_sumSign_10 rfl ?_
    refine E_bp (nI 45) dX12_sumSign_11 (by decide) ?_
    refine E_icmp_ne (tgt := 20) dX12_sumSign_13 (by decide) (fun cw13 => ?_) (fun cw13 => ?_)
    · refine E_iload_n dX12_sumSign_20 rfl ?_
      refine E_bp (nI 42) dX12_sumSign_21 (by decide) ?_
      refine E_icmp_ne (tgt := 30) dX12_sumSign_23 (by decide) (fun cw23 => ?_) (fun cw23 => ?_)
      · refine E_iload_n dX12_sumSign_30 rfl ?_
        refine E_bp (nI 47) dX12_sumSign_31 (by decide) ?_
        refine E_icmp_ne (tgt := 40) dX12_sumSign_33 (by decide) (fun cw33 => ?_) (fun cw33 => ?_)
        · refine E_iload_n dX12_sumSign_40 rfl ?_
          refine E_bp (nI 37) dX12_sumSign_41 (by decide) ?_
          refine E_icmp_ne (tgt := 51) dX12_sumSign_43 (by decide) (fun cw43 => ?_) (fun cw43 => ?_)
          · refine E_ic (-1) dX12_sumSign_51 (by decide) ?_
            exact E_iret dX12_sumSign_52 rfl (by first | (have e := (ch_eq (k := 43) (by decide)).mp cw3; subst e; exact hQ) | (have e := (ch_eq (k := 45) (by decide)).mp cw13; subst e; exact hQ) | (have e := (ch_eq (k := 42) (by decide)).mp cw23; subst e; exact hQ) | (have e := (ch_eq (k := 47) (by decide)).mp cw33; subst e; exact hQ) | (have e := (ch_eq (k := 37) (by decide)).mp cw43; subst e; exact hQ) | (have e : sgL x = 0 := (if_neg (fun z => cw3 ((ch_eq (k := 43) (by decide)).mpr z))).trans ((if_neg (fun z => cw13 ((ch_eq (k := 45) (by decide)).mpr z))).trans ((if_neg (fun z => cw23 ((ch_eq (k := 42) (by decide)).mpr z))).trans ((if_neg (fun z => cw33 ((ch_eq (k := 47) (by decide)).mpr z))).trans (if_neg (fun z => cw43 ((ch_eq (k := 37) (by decide)).mpr z)))))); rw [if_pos e] at hQ; exact hQ))
          · refine E_bp (nI 6) dX12_sumSign_46 (by decide) ?_
            refine E_goto (tgt := 52) dX12_sumSign_48 (by decide) ?_
            exact E_iret dX12_sumSign_52 rfl (by first | (have e := (ch_eq (k := 43) (by decide)).mp cw3; subst e; exact hQ) | (have e := (ch_eq (k := 45) (by decide)).mp cw13; subst e; exact hQ) | (have e := (ch_eq (k := 42) (by decide)).mp cw23; subst e; exact hQ) | (have e := (ch_eq (k := 47) (by decide)).mp cw33; subst e; exact hQ) | (have e := (ch_eq (k := 37) (by decide)).mp cw43; subst e; exact hQ) | (have e : sgL x = 0 := (if_neg (fun z => cw3 ((ch_eq (k := 43) (by decide)).mpr z))).trans ((if_neg (fun z => cw13 ((ch_eq (k := 45) (by decide)).mpr z))).trans ((if_neg (fun z => cw23 ((ch_eq (k := 42) (by decide)).mpr z))).trans ((if_neg (fun z => cw33 ((ch_eq (k := 47) (by decide)).mpr z))).trans (if_neg (fun z => cw43 ((ch_eq (k := 37) (by decide)).mpr z)))))); rw [if_pos e] at hQ; exact hQ))
        · refine E_ic (nI 5) dX12_sumSign_36 (by decide) ?_
          refine E_goto (tgt := 52) dX12_sumSign_37 (by decide) ?_
          exact E_iret dX12_sumSign_52 rfl (by first | (have e := (ch_eq (k := 43) (by decide)).mp cw3; subst e; exact hQ) | (have e := (ch_eq (k := 45) (by decide)).mp cw13; subst e; exact hQ) | (have e := (ch_eq (k := 42) (by decide)).mp cw23; subst e; exact hQ) | (have e := (ch_eq (k := 47) (by decide)).mp cw33; subst e; exact hQ) | (have e := (ch_eq (k := 37) (by decide)).mp cw43; subst e; exact hQ) | (have e : sgL x = 0 := (if_neg (fun z => cw3 ((ch_eq (k := 43) (by decide)).mpr z))).trans ((if_neg (fun z => cw13 ((ch_eq (k := 45) (by decide)).mpr z))).trans ((if_neg (fun z => cw23 ((ch_eq (k := 42) (by decide)).mpr z))).trans ((if_neg (fun z => cw33 ((ch_eq (k := 47) (by decide)).mpr z))).trans (if_neg (fun z => cw43 ((ch_eq (k := 37) (by decide)).mpr z)))))); rw [if_pos e] at hQ; exact hQ))
      · refine E_ic (nI 4) dX12_sumSign_26 (by decide) ?_
        refine E_goto (tgt := 52) dX12_sumSign_27 (by decide) ?_
        exact E_iret dX12_sumSign_52 rfl (by first | (have e := (ch_eq (k := 43) (by decide)).mp cw3; subst e; exact hQ) | (have e := (ch_eq (k := 45) (by decide)).mp cw13; subst e; exact hQ) | (have e := (ch_eq (k := 42) (by decide)).mp cw23; subst e; exact hQ) | (have e := (ch_eq (k := 47) (by decide)).mp cw33; subst e; exact hQ) | (have e := (ch_eq (k := 37) (by decide)).mp cw43; subst e; exact hQ) | (have e : sgL x = 0 := (if_neg (fun z => cw3 ((ch_eq (k := 43) (by decide)).mpr z))).trans ((if_neg (fun z => cw13 ((ch_eq (k := 45) (by decide)).mpr z))).trans ((if_neg (fun z => cw23 ((ch_eq (k := 42) (by decide)).mpr z))).trans ((if_neg (fun z => cw33 ((ch_eq (k := 47) (by decide)).mpr z))).trans (if_neg (fun z => cw43 ((ch_eq (k := 37) (by decide)).mpr z)))))); rw [if_pos e] at hQ; exact hQ))
    · refine E_ic (nI 3) dX12_sumSign_16 (by decide) ?_
      refine E_goto (tgt := 52) dX12_sumSign_17 (by decide) ?_
      exact E_iret dX12_sumSign_52 rfl (by first | (have e := (ch_eq (k := 43) (by decide)).mp cw3; subst e; exact hQ) | (have e := (ch_eq (k := 45) (by decide)).mp cw13; subst e; exact hQ) | (have e := (ch_eq (k := 42) (by decide)).mp cw23; subst e; exact hQ) | (have e := (ch_eq (k := 47) (by decide)).mp cw33; subst e; exact hQ) | (have e := (ch_eq (k := 37) (by decide)).mp cw43; subst e; exact hQ) | (have e : sgL x = 0 := (if_neg (fun z => cw3 ((ch_eq (k := 43) (by decide)).mpr z))).trans ((if_neg (fun z => cw13 ((ch_eq (k := 45) (by decide)).mpr z))).trans ((if_neg (fun z => cw23 ((ch_eq (k := 42) (by decide)).mpr z))).trans ((if_neg (fun z => cw33 ((ch_eq (k := 47) (by decide)).mpr z))).trans (if_neg (fun z => cw43 ((ch_eq (k := 37) (by decide)).mpr z)))))); rw [if_pos e] at hQ; exact hQ))
  · refine E_ic (nI 2) dX12_sumSign_6 (by decide) ?_
    refine E_goto (tgt := 52) dX12_sumSign_7 (by decide) ?_
    exact E_iret dX12_sumSign_52 rfl (by first | (have e := (ch_eq (k := 43) (by decide)).mp cw3; subst e; exact hQ) | (have e := (ch_eq (k := 45) (by decide)).mp cw13; subst e; exact hQ) | (have e := (ch_eq (k := 42) (by decide)).mp cw23; subst e; exact hQ) | (have e := (ch_eq (k := 47) (by decide)).mp cw33; subst e; exact hQ) | (have e := (ch_eq (k := 37) (by decide)).mp cw43; subst e; exact hQ) | (have e : sgL x = 0 := (if_neg (fun z => cw3 ((ch_eq (k := 43) (by decide)).mpr z))).trans ((if_neg (fun z => cw13 ((ch_eq (k := 45) (by decide)).mpr z))).trans ((if_neg (fun z => cw23 ((ch_eq (k := 42) (by decide)).mpr z))).trans ((if_neg (fun z => cw33 ((ch_eq (k := 47) (by decide)).mpr z))).trans (if_neg (fun z => cw43 ((ch_eq (k := 37) (by decide)).mpr z)))))); rw [if_pos e] at hQ; exact hQ))
set_option maxRecDepth 100000 in
set_option maxHeartbeats 2000000 in
theorem m_factOf {x : Nat} (hQ : Q (some (.int (if knL x < 9 then nI (knL x) else -1))) n I J R) : E g mX12_factOf d 0 0 0 (ent 1 [.int (chI x)]) [] n I J R Q := by
  by_cases hx : 99 ≤ x ∧ x ≤ 122
  · have cx : x = 99 ∨ x = 100 ∨ x = 101 ∨ x = 102 ∨ x = 103 ∨ x = 104 ∨ x = 105 ∨ x = 106 ∨ x = 107 ∨ x = 108 ∨ x = 109 ∨ x = 110 ∨ x = 111 ∨ x = 112 ∨ x = 113 ∨ x = 114 ∨ x = 115 ∨ x = 116 ∨ x = 117 ∨ x = 118 ∨ x = 119 ∨ x = 120 ∨ x = 121 ∨ x = 122 := by omega
    rcases cx with rfl | rfl | rfl | rfl | rfl | rfl | rfl | rfl | rfl | rfl | rfl | rfl | rfl | rfl | rfl | rfl | rfl | rfl | rfl | rfl | rfl | rfl | rfl | rfl
    · show E g mX12_factOf d 0 0 0 [.int (nI 99)] [] n I J R Q
      refine E_iload_n dX12_factOf_0 rfl ?_
      refine E_tin (tgt := 118) dX12_factOf_1 (by decide) (by decide) rfl (by decide) ?_
      refine E_ic (nI 3) dX12_factOf_118 (by decide) ?_
      exact E_iret dX12_factOf_119 rfl (hQ)
    · show E g mX12_factOf d 0 0 0 [.int (nI 100)] [] n I J R Q
      refine E_iload_n dX12_factOf_0 rfl ?_
      refine E_tin (tgt := 133) dX12_factOf_1 (by decide) (by decide) rfl (by decide) ?_
      refine E_ic (-1) dX12_factOf_133 (by decide) ?_
      exact E_iret dX12_factOf_134 rfl (hQ)
    · show E g mX12_factOf d 0 0 0 [.int (nI 101)] [] n I J R Q
      refine E_iload_n dX12_factOf_0 rfl ?_
      refine E_tin (tgt := 133) dX12_factOf_1 (by decide) (by decide) rfl (by decide) ?_
      refine E_ic (-1) dX12_factOf_133 (by decide) ?_
      exact E_iret dX12_factOf_134 rfl (hQ)
    · show E g mX12_factOf d 0 0 0 [.int (nI 102)] [] n I J R Q
      refine E_iload_n dX12_factOf_0 rfl ?_
      refine E_tin (tgt := 133) dX12_factOf_1 (by decide) (by decide) rfl (by decide) ?_
      refine E_ic (-1) dX12_factOf_133 (by decide) ?_
      exact E_iret dX12_factOf_134 rfl (hQ)
    · show E g mX12_factOf d 0 0 0 [.int (nI 103)] [] n I J R Q
      refine E_iload_n dX12_factOf_0 rfl ?_
      refine E_tin (tgt := 133) dX12_factOf_1 (by decide) (by decide) rfl (by decide) ?_
      refine E_ic (-1) dX12_factOf_133 (by decide) ?_
      exact E_iret dX12_factOf_134 rfl (hQ)
    · show E g mX12_factOf d 0 0 0 [.int (nI 104)] [] n I J R Q
      refine E_iload_n dX12_factOf_0 rfl ?_
      refine E_tin (tgt := 133) dX12_factOf_1 (by decide) (by decide) rfl (by decide) ?_
      refine E_ic (-1) dX12_factOf_133 (by decide) ?_
      exact E_iret dX12_factOf_134 rfl (hQ)
    · show E g mX12_factOf d 0 0 0 [.int (nI 105)] [] n I J R Q
      refine E_iload_n dX12_factOf_0 rfl ?_
      refine E_tin (tgt := 127) dX12_factOf_1 (by decide) (by decide) rfl (by decide) ?_
      refine E_bp (nI 7) dX12_factOf_127 (by decide) ?_
      exact E_iret dX12_factOf_129 rfl (hQ)
    · show E g mX12_factOf d 0 0 0 [.int (nI 106)] [] n I J R Q
      refine E_iload_n dX12_factOf_0 rfl ?_
      refine E_tin (tgt := 133) dX12_factOf_1 (by decide) (by decide) rfl (by decide) ?_
      refine E_ic (-1) dX12_factOf_133 (by decide) ?_
      exact E_iret dX12_factOf_134 rfl (hQ)
    · show E g mX12_factOf d 0 0 0 [.int (nI 107)] [] n I J R Q
      refine E_iload_n dX12_factOf_0 rfl ?_
      refine E_tin (tgt := 112) dX12_factOf_1 (by decide) (by decide) rfl (by decide) ?_
      refine E_ic (nI 0) dX12_factOf_112 (by decide) ?_
      exact E_iret dX12_factOf_113 rfl (hQ)
    · show E g mX12_factOf d 0 0 0 [.int (nI 108)] [] n I J R Q
      refine E_iload_n dX12_factOf_0 rfl ?_
      refine E_tin (tgt := 133) dX12_factOf_1 (by decide) (by decide) rfl (by decide) ?_
      refine E_ic (-1) dX12_factOf_133 (by decide) ?_
      exact E_iret dX12_factOf_134 rfl (hQ)
    · show E g mX12_factOf d 0 0 0 [.int (nI 109)] [] n I J R Q
      refine E_iload_n dX12_factOf_0 rfl ?_
      refine E_tin (tgt := 133) dX12_factOf_1 (by decide) (by decide) rfl (by decide) ?_
      refine E_ic (-1) dX12_factOf_133 (by decide) ?_
      exact E_iret dX12_factOf_134 rfl (hQ)
    · show E g mX12_factOf d 0 0 0 [.int (nI 110)] [] n I J R Q
      refine E_iload_n dX12_factOf_0 rfl ?_
      refine E_tin (tgt := 114) dX12_factOf_1 (by decide) (by decide) rfl (by decide) ?_
      refine E_ic (nI 1) dX12_factOf_114 (by decide) ?_
      exact E_iret dX12_factOf_115 rfl (hQ)
    · show E g mX12_factOf d 0 0 0 [.int (nI 111)] [] n I J R Q
      refine E_iload_n dX12_factOf_0 rfl ?_
      refine E_tin (tgt := 133) dX12_factOf_1 (by decide) (by decide) rfl (by decide) ?_
      refine E_ic (-1) dX12_factOf_133 (by decide) ?_
      exact E_iret dX12_factOf_134 rfl (hQ)
    · show E g mX12_factOf d 0 0 0 [.int (nI 112)] [] n I J R Q
      refine E_iload_n dX12_factOf_0 rfl ?_
      refine E_tin (tgt := 133) dX12_factOf_1 (by decide) (by decide) rfl (by decide) ?_
      refine E_ic (-1) dX12_factOf_133 (by decide) ?_
      exact E_iret dX12_factOf_134 rfl (hQ)
    · show E g mX12_factOf d 0 0 0 [.int (nI 113)] [] n I J R Q
      refine E_iload_n dX12_factOf_0 rfl ?_
      refine E_tin (tgt := 133) dX12_factOf_1 (by decide) (by decide) rfl (by decide) ?_
      refine E_ic (-1) dX12_factOf_133 (by decide) ?_
      exact E_iret dX12_factOf_134 rfl (hQ)
    · show E g mX12_factOf d 0 0 0 [.int (nI 114)] [] n I J R Q
      refine E_iload_n dX12_factOf_0 rfl ?_
      refine E_tin (tgt := 133) dX12_factOf_1 (by decide) (by decide) rfl (by decide) ?_
      refine E_ic (-1) dX12_factOf_133 (by decide) ?_
      exact E_iret dX12_factOf_134 rfl (hQ)
    · show E g mX12_factOf d 0 0 0 [.int (nI 115)] [] n I J R Q
      refine E_iload_n dX12_factOf_0 rfl ?_
      refine E_tin (tgt := 124) dX12_factOf_1 (by decide) (by decide) rfl (by decide) ?_
      refine E_bp (nI 6) dX12_factOf_124 (by decide) ?_
      exact E_iret dX12_factOf_126 rfl (hQ)
    · show E g mX12_factOf d 0 0 0 [.int (nI 116)] [] n I J R Q
      refine E_iload_n dX12_factOf_0 rfl ?_
      refine E_tin (tgt := 133) dX12_factOf_1 (by decide) (by decide) rfl (by decide) ?_
      refine E_ic (-1) dX12_factOf_133 (by decide) ?_
      exact E_iret dX12_factOf_134 rfl (hQ)
    · show E g mX12_factOf d 0 0 0 [.int (nI 117)] [] n I J R Q
      refine E_iload_n dX12_factOf_0 rfl ?_
      refine E_tin (tgt := 120) dX12_factOf_1 (by decide) (by decide) rfl (by decide) ?_
      refine E_ic (nI 4) dX12_factOf_120 (by decide) ?_
      exact E_iret dX12_factOf_121 rfl (hQ)
    · show E g mX12_factOf d 0 0 0 [.int (nI 118)] [] n I J R Q
      refine E_iload_n dX12_factOf_0 rfl ?_
      refine E_tin (tgt := 133) dX12_factOf_1 (by decide) (by decide) rfl (by decide) ?_
      refine E_ic (-1) dX12_factOf_133 (by decide) ?_
      exact E_iret dX12_factOf_134 rfl (hQ)
    · show E g mX12_factOf d 0 0 0 [.int (nI 119)] [] n I J R Q
      refine E_iload_n dX12_factOf_0 rfl ?_
      refine E_tin (tgt := 130) dX12_factOf_1 (by decide) (by decide) rfl (by decide) ?_
      refine E_bp (nI 8) dX12_factOf_130 (by decide) ?_
      exact E_iret dX12_factOf_132 rfl (hQ)
    · show E g mX12_factOf d 0 0 0 [.int (nI 120)] [] n I J R Q
      refine E_iload_n dX12_factOf_0 rfl ?_
      refine E_tin (tgt := 133) dX12_factOf_1 (by decide) (by decide) rfl (by decide) ?_
      refine E_ic (-1) dX12_factOf_133 (by decide) ?_
      exact E_iret dX12_factOf_134 rfl (hQ)
    · show E g mX12_factOf d 0 0 0 [.int (nI 121)] [] n I J R Q
      refine E_iload_n dX12_factOf_0 rfl ?_
      refine E_tin (tgt := 122) dX12_factOf_1 (by decide) (by decide) rfl (by decide) ?_
      refine E_ic (nI 5) dX12_factOf_122 (by decide) ?_
      exact E_iret dX12_factOf_123 rfl (hQ)
    · show E g mX12_factOf d 0 0 0 [.int (nI 122)] [] n I J R Q
      refine E_iload_n dX12_factOf_0 rfl ?_
      refine E_tin (tgt := 116) dX12_factOf_1 (by decide) (by decide) rfl (by decide) ?_
      refine E_ic (nI 2) dX12_factOf_116 (by decide) ?_
      exact E_iret dX12_factOf_117 rfl (hQ)
  · have ho : (chI x).toInt < 99 ∨ 122 < (chI x).toInt := by
      by_cases h : x < 256
      · have key : ∀ x, x < 256 → ¬ (99 ≤ x ∧ x ≤ 122) → (chI x).toInt < 99 ∨ 122 < (chI x).toInt := by decide +kernel
        exact key x h hx
      · rw [show chI x = -1 from if_neg h]
        decide
    rw [if_neg (show ¬ knL x < 9 by unfold knL; rw [if_neg (by omega), if_neg (by omega), if_neg (by omega), if_neg (by omega), if_neg (by omega), if_neg (by omega), if_neg (by omega), if_neg (by omega), if_neg (by omega)]; decide)] at hQ
    refine E_iload_n dX12_factOf_0 rfl ?_
    refine E_tout (tgt := 133) dX12_factOf_1 ho (by decide) ?_
    refine E_ic (-1) dX12_factOf_133 (by decide) ?_
    exact E_iret dX12_factOf_134 rfl (hQ)
end PLawM
