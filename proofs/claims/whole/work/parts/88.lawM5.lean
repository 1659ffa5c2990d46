/-! ===== the law's conditions, as the reference reads them ===== -/
def nop : WK → Nat
  | [] => 0
  | e :: K => (if e.1 = 10 ∨ e.1 = 13 then 1 else 0) + nop K
theorem okK.v {s : Nat} {K : WK} (h : okK s K) (hs : s ≤ 300) : okV K := fun e he => by
  rcases h e he with ⟨z | z, y⟩ | ⟨z | z, y⟩ <;> exact ⟨by omega, by omega⟩
theorem okK.b {s : Nat} {K : WK} (h : okK s K) : stB K := by
  cases K with
  | nil => exact Or.inl rfl
  | cons e K =>
    refine Or.inr ⟨e, K, rfl, ?_⟩
    rcases h e List.mem_cons_self with ⟨z | z, y⟩ | ⟨z | z, y⟩ <;> omega
theorem ep_nop : ∀ (K : WK) (k : Nat) (q : TS), (epR k K q).1 + nop (epR k K q).2.1 = k + nop K
  | [], _, _ => rfl
  | e :: K, k, q => by
    unfold epR
    by_cases c : e.1 = 10
    · rw [if_pos c, ep_nop K (k + 1) (emL 10 q)]
      show k + 1 + nop K = k + ((if e.1 = 10 ∨ e.1 = 13 then 1 else 0) + nop K)
      rw [if_pos (Or.inl c)]
      omega
    · rw [if_neg c]
theorem ld_inv {al : Bool} {s : Nat} (hs : s < 1048576) : ∀ (K : WK) (cd : CDE), okK s K → CDok cd s → n10 (ldR al K s cd).1 = n10 K ∧ nop (ldR al K s cd).1 = nop K ∧ okK s (ldR al K s cd).1 ∧ CDok (ldR al K s cd).2 s ∧ (ldR al K s cd).1.length ≤ K.length
  | [], cd, h, h2 => ⟨rfl, rfl, h, h2, Nat.le_refl _⟩
  | e :: K, cd, h, h2 => by
    unfold ldR
    by_cases c : e.1 = 11 ∨ (al = true ∧ e.1 = 12)
    · rw [if_pos c]
      have h3 : CDok (cdU cd e.2 ((cd e.2).1, s)) s := fun i hi => by
        by_cases z : i = e.2
        · rw [z, cdU_s]
          rw [z] at hi
          exact ⟨(h2 e.2 hi).1, hs⟩
        · rw [cdU_n z]
          exact h2 i hi
      obtain ⟨i1, i2, i3, i4, i5⟩ := ld_inv (al := al) hs K _ h.tl h3
      have e11 : e.1 = 11 ∨ e.1 = 12 := by rcases c with c | c; exact Or.inl c; exact Or.inr c.2
      refine ⟨?_, ?_, i3, i4, Nat.le_succ_of_le i5⟩
      · rw [i1]
        show n10 K = (if e.1 = 10 then 1 else 0) + n10 K
        rw [if_neg (by omega)]
        omega
      · rw [i2]
        show nop K = (if e.1 = 10 ∨ e.1 = 13 then 1 else 0) + nop K
        rw [if_neg (by omega)]
        omega
    · rw [if_neg c]
      exact ⟨rfl, rfl, h, h2, Nat.le_refl _⟩
theorem PLm.cd {k p s j x : Nat} {K : WK} {cd : CDE} {I : IM} (h : PLm k K (p, s, cd) I) : PLm k K (p, s, cdU cd j ((cd j).1, x)) (up2 I 122 j (nI (1048576 * (cd j).1 + x))) := ⟨(congrFun (up2_o I 122 _ _ 114 (by decide)) 8).trans h.1, (congrFun (up2_o I 122 _ _ 114 (by decide)) 13).trans h.2.1, fun i hi => by
    show up2 I 122 j (nI (1048576 * (cd j).1 + x)) 122 i = nI (1048576 * (cdU cd j ((cd j).1, x) i).1 + (cdU cd j ((cd j).1, x) i).2)
    by_cases e : i = j
    · rw [e, cdU_s, up2_s]
    · rw [cdU_n e, up2_k _ _ e]
      exact h.2.2.1 i hi, (congrFun (up2_o I 122 _ _ 114 (by decide)) 12).trans h.2.2.2.1, (congrFun (up2_o I 122 _ _ 114 (by decide)) 14).trans h.2.2.2.2.1, h.2.2.2.2.2.low (fun i _ => congrFun (up2_o I 122 _ _ 123 (by decide)) i)⟩
section PLawM5
variable {g : GL} {d n : Nat} {J : JM} {R : RM} {Q : PQ} {t c : Nat → Nat} {L : Nat}
set_option maxRecDepth 100000 in
set_option maxHeartbeats 2000000 in
theorem m_endsPiece (hd : 1 ≤ d) (hN : 152 ≤ n) (hR : RS R) : ∀ (K : WK) (k : Nat) (q : TS) (I : IM), okV K → K.length < 260 → q.2.1 + n10 K ≤ 250 → k + nop K = 6 → PLm k K q I → (∀ I2 : IM, FLm I I2 → PLm (epR k K q).1 (epR k K q).2.1 (epR k K q).2.2 I2 → Q none n I2 J R) → E g mX12_endsPiece d 0 0 0 [.ref 114] [] n I J R Q := by
  intro K
  induction K with
  | nil =>
    intro k q I hv hl hs hk hP hQ
    refine E_aload_n dX12_endsPiece_0 rfl ?_
    refine E_callV (As := []) (ci := 11) (kc' := 0) (ks' := 0) (kc := 0) (ks := 0) dX12_endsPiece_1 ok_X12_waitTop w_X12_170 i_X12_waitTop s_X12_waitTop rfl (by decide) rfl (Nat.lt_of_lt_of_le (by decide) hN) rfl rfl rfl (Nat.le_of_ble_eq_true rfl) (Nat.le_of_ble_eq_true rfl) (by omega) (m_waitTop (d := 0) (K := []) hN hR hv hl hP ?_)
    refine E_bp (nI 10) dX12_endsPiece_4 (by decide) ?_
    refine E_icmp_ne (tgt := 39) dX12_endsPiece_6 (by decide) (fun cw6 => ?_) (fun cw6 => by first | exact absurd cw6 ((by decide)) | exact absurd ((by decide)) cw6)
    exact E_ret dX12_endsPiece_39 rfl (hQ I (FLm.refl I) hP)
  | cons e K ih =>
    intro k q I hv hl hs hk hP hQ
    have v1 := (hv e List.mem_cons_self).1
    have hl0 : K.length + 1 < 260 := hl
    have hs : q.2.1 + ((if e.1 = 10 then 1 else 0) + n10 K) ≤ 250 := hs
    have hk : k + ((if e.1 = 10 ∨ e.1 = 13 then 1 else 0) + nop K) = 6 := hk
    by_cases c1 : e.1 = 10
    · rw [if_pos c1] at hs
      rw [if_pos (Or.inl c1)] at hk
      refine E_aload_n dX12_endsPiece_0 rfl ?_
      refine E_callV (As := []) (ci := 11) (kc' := 0) (ks' := 0) (kc := 0) (ks := 0) dX12_endsPiece_1 ok_X12_waitTop w_X12_170 i_X12_waitTop s_X12_waitTop rfl (by decide) rfl (Nat.lt_of_lt_of_le (by decide) hN) rfl rfl rfl (Nat.le_of_ble_eq_true rfl) (Nat.le_of_ble_eq_true rfl) (by omega) (m_waitTop (d := 0) (K := e :: K) hN hR hv hl hP ?_)
      refine E_bp (nI 10) dX12_endsPiece_4 (by decide) ?_
      refine E_cN_ne (a := e.1) (b := 10) (tgt := 39) dX12_endsPiece_6 (by omega) (by decide) (by decide) (fun cw6 => absurd cw6 (by omega)) (fun cw6 => ?_)
      refine E_aload_n dX12_endsPiece_9 rfl ?_
      refine E_bp (nI 10) dX12_endsPiece_10 (by decide) ?_
      refine E_ic (nI 0) dX12_endsPiece_12 (by decide) ?_
      refine E_callV (As := [_, _]) (ci := 11) (kc' := 0) (ks' := 0) (kc := 0) (ks := 0) dX12_endsPiece_13 ok_X12_notes w_X12_173 i_X12_notes s_X12_notes rfl (by decide) rfl (Nat.lt_of_lt_of_le (by decide) hN) rfl rfl rfl (Nat.le_of_ble_eq_true rfl) (Nat.le_of_ble_eq_true rfl) (by omega) (m_notes (d := 0) (op := 10) (v := 0) (q := q) hN hR (by omega) hP (fun I2 f2 p2 => ?_))
      refine E_aload_n dX12_endsPiece_16 rfl ?_
      refine E_aload_n dX12_endsPiece_17 rfl ?_
      refine E_getI dX12_endsPiece_18 f_X12_167 rfl (Nat.lt_of_lt_of_le (by decide) hN) rfl ?_
      refine E.top (p2.2.2.2.2.1) ?_
      refine E_ic (nI 1) dX12_endsPiece_21 (by decide) ?_
      refine E_isub dX12_endsPiece_22 ?_
      refine E.top (pk_sub (a := K.length + 1) (b := 1) (by omega)) ?_
      refine E.top (congrArg nI (show K.length + 1 - 1 = K.length from rfl)) ?_
      refine E_putI dX12_endsPiece_23 f_X12_167 rfl (Nat.lt_of_lt_of_le (by decide) hN) rfl ?_
      refine E_aload_n dX12_endsPiece_26 rfl ?_
      refine E_aload_n dX12_endsPiece_27 rfl ?_
      refine E_getI dX12_endsPiece_28 f_X12_164 rfl (Nat.lt_of_lt_of_le (by decide) hN) rfl ?_
      refine E.top (p2.pop.2.2.2.1) ?_
      refine E_ic (nI 1) dX12_endsPiece_31 (by decide) ?_
      refine E_isub dX12_endsPiece_32 ?_
      refine E.top (pk_sub (a := 6 - k) (b := 1) (by omega)) ?_
      refine E.top (congrArg nI (show 6 - k - 1 = 6 - (k + 1) by omega)) ?_
      refine E_putI dX12_endsPiece_33 f_X12_164 rfl (Nat.lt_of_lt_of_le (by decide) hN) rfl ?_
      refine E_goto (tgt := 0) dX12_endsPiece_36 (by decide) ?_
      have e5 : epR k (e :: K) q = epR (k + 1) K (emL 10 q) := if_pos c1
      rw [e5] at hQ
      have e6 : emL 10 q = (q.1, q.2.1 + 1, cdU q.2.2 q.2.1 (10, 0)) := emL_n (by decide) q
      exact ih (k + 1) (emL 10 q) _ hv.tl (by omega) (by rw [e6]; show q.2.1 + 1 + n10 K ≤ 250; omega) (by omega) (by rw [e6]; exact PLm.op (k2 := k + 1) p2.pop) (fun I3 f3 p3 => hQ I3 ((f2.trans ((FLm.up I2 _ (by decide)).trans (FLm.up _ _ (by decide)))).trans f3) p3)
    · skip
      refine E_aload_n dX12_endsPiece_0 rfl ?_
      refine E_callV (As := []) (ci := 11) (kc' := 0) (ks' := 0) (kc := 0) (ks := 0) dX12_endsPiece_1 ok_X12_waitTop w_X12_170 i_X12_waitTop s_X12_waitTop rfl (by decide) rfl (Nat.lt_of_lt_of_le (by decide) hN) rfl rfl rfl (Nat.le_of_ble_eq_true rfl) (Nat.le_of_ble_eq_true rfl) (by omega) (m_waitTop (d := 0) (K := e :: K) hN hR hv hl hP ?_)
      refine E_bp (nI 10) dX12_endsPiece_4 (by decide) ?_
      refine E_cN_ne (a := e.1) (b := 10) (tgt := 39) dX12_endsPiece_6 (by omega) (by decide) (by decide) (fun cw6 => ?_) (fun cw6 => absurd cw6 (by omega))
      exact E_ret dX12_endsPiece_39 rfl ((by rw [show epR k (e :: K) q = (k, e :: K, q) from if_neg c1] at hQ; exact hQ I (FLm.refl I) hP))
set_option maxRecDepth 100000 in
set_option maxHeartbeats 2000000 in
theorem m_lands1 {k p s : Nat} (hd : 1 ≤ d) (hN : 152 ≤ n) (hR : RS R) (hs : s ≤ 240) : ∀ (K : WK) (cd : CDE) (I : IM), okK s K → K.length < 260 → CDok cd s → PLm k K (p, s, cd) I → (∀ I2 : IM, FLm I I2 → PLm k (ldR true K s cd).1 (p, s, (ldR true K s cd).2) I2 → Q none n I2 J R) → E g mX12_lands d 0 0 0 [.ref 114, .int (nI 1), jk] [] n I J R Q := by
  intro K
  induction K with
  | nil =>
    intro cd I hK hl hcd hP hQ
    have hv := hK.v (by omega)
    refine E_aload_n dX12_lands_0 rfl ?_
    refine E_callV (As := []) (ci := 11) (kc' := 0) (ks' := 0) (kc := 0) (ks := 0) dX12_lands_1 ok_X12_waitTop w_X12_170 i_X12_waitTop s_X12_waitTop rfl (by decide) rfl (Nat.lt_of_lt_of_le (by decide) hN) rfl rfl rfl (Nat.le_of_ble_eq_true rfl) (Nat.le_of_ble_eq_true rfl) (by omega) (m_waitTop (d := 0) (K := []) hN hR hv hl hP ?_)
    refine E_bp (nI 11) dX12_lands_4 (by decide) ?_
    refine E_icmp_eq (tgt := 22) dX12_lands_6 (by decide) (fun cw6 => by first | exact absurd cw6 ((by decide)) | exact absurd ((by decide)) cw6) (fun cw6 => ?_)
    refine E_iload_n dX12_lands_9 rfl ?_
    refine E_zN_eq (a := 1) (tgt := 73) dX12_lands_10 (by decide) (by decide) (fun cw10 => absurd cw10 (by omega)) (fun cw10 => ?_)
    refine E_aload_n dX12_lands_13 rfl ?_
    refine E_callV (As := []) (ci := 11) (kc' := 0) (ks' := 0) (kc := 0) (ks := 0) dX12_lands_14 ok_X12_waitTop w_X12_170 i_X12_waitTop s_X12_waitTop rfl (by decide) rfl (Nat.lt_of_lt_of_le (by decide) hN) rfl rfl rfl (Nat.le_of_ble_eq_true rfl) (Nat.le_of_ble_eq_true rfl) (by omega) (m_waitTop (d := 0) (K := []) hN hR hv hl hP ?_)
    refine E_bp (nI 12) dX12_lands_17 (by decide) ?_
    refine E_icmp_ne (tgt := 73) dX12_lands_19 (by decide) (fun cw19 => ?_) (fun cw19 => by first | exact absurd cw19 ((by decide)) | exact absurd ((by decide)) cw19)
    exact E_ret dX12_lands_73 rfl (hQ I (FLm.refl I) hP)
  | cons e K ih =>
    intro cd I hK hl hcd hP hQ
    have hv := hK.v (by omega)
    obtain ⟨v1, v2⟩ := hv e List.mem_cons_self
    have hl0 : K.length + 1 < 260 := hl
    by_cases hcond : e.1 = 11 ∨ (true = true ∧ e.1 = 12)
    · have e2s : e.2 < s := by
        rcases hK e List.mem_cons_self with ⟨z | z, y⟩ | ⟨z, y⟩
        · rcases hcond with h | h <;> omega
        · rcases hcond with h | h <;> omega
        · exact y
      obtain ⟨o1, o2⟩ := hcd e.2 e2s
      have h3 : CDok (cdU cd e.2 ((cd e.2).1, s)) s := fun i hi => by
        by_cases z : i = e.2
        · rw [z, cdU_s]
          exact ⟨o1, by show s < 1048576; omega⟩
        · rw [cdU_n z]
          exact hcd i hi
      refine E_aload_n dX12_lands_0 rfl ?_
      refine E_callV (As := []) (ci := 11) (kc' := 0) (ks' := 0) (kc := 0) (ks := 0) dX12_lands_1 ok_X12_waitTop w_X12_170 i_X12_waitTop s_X12_waitTop rfl (by decide) rfl (Nat.lt_of_lt_of_le (by decide) hN) rfl rfl rfl (Nat.le_of_ble_eq_true rfl) (Nat.le_of_ble_eq_true rfl) (by omega) (m_waitTop (d := 0) (K := e :: K) hN hR hv hl hP ?_)
      refine E_bp (nI 11) dX12_lands_4 (by decide) ?_
      refine E_cN_eq (a := e.1) (b := 11) (tgt := 22) dX12_lands_6 (by omega) (by decide) (by decide) (fun cw6 => ?_) (fun cw6 => ?_)
      · refine E_aload_n dX12_lands_22 rfl ?_
        refine E_getR dX12_lands_23 f_X12_35 rfl (Nat.lt_of_lt_of_le (by decide) hN) rfl (hR _ _ _ rfl) ?_
        refine E_aload_n dX12_lands_26 rfl ?_
        refine E_getI dX12_lands_27 f_X12_167 rfl (Nat.lt_of_lt_of_le (by decide) hN) rfl ?_
        refine E.top (hP.2.2.2.2.1) ?_
        refine E_ic (nI 1) dX12_lands_30 (by decide) ?_
        refine E_isub dX12_lands_31 ?_
        refine E.top (pk_sub (a := K.length + 1) (b := 1) (by omega)) ?_
        refine E.top (congrArg nI (show K.length + 1 - 1 = K.length from rfl)) ?_
        refine E_ialdN dX12_lands_32 rfl (Nat.lt_of_lt_of_le (by decide) hN) (by omega) ?_
        refine E.top (hP.2.2.2.2.2.1) ?_
        refine E_ldc (nI 1048576) dX12_lands_33 k_X12_163 ?_
        refine E_irem dX12_lands_35 (by decide) ?_
        refine E.top (pk_rem (a := 1048576 * e.1 + e.2) (d := 1048576) (by omega) (by decide) (by decide)) ?_
        refine E.top (congrArg nI (show (1048576 * e.1 + e.2) % 1048576 = e.2 by omega)) ?_
        refine E_istore_n dX12_lands_36 (Nat.le_of_ble_eq_true rfl) ?_
        refine E_aload_n dX12_lands_37 rfl ?_
        refine E_getR dX12_lands_38 f_X12_32 rfl (Nat.lt_of_lt_of_le (by decide) hN) rfl (hR _ _ _ rfl) ?_
        refine E_iload_n dX12_lands_41 rfl ?_
        refine E_ldc (nI 1048576) dX12_lands_42 k_X12_163 ?_
        refine E_aload_n dX12_lands_44 rfl ?_
        refine E_getR dX12_lands_45 f_X12_32 rfl (Nat.lt_of_lt_of_le (by decide) hN) rfl (hR _ _ _ rfl) ?_
        refine E_iload_n dX12_lands_48 rfl ?_
        refine E_ialdN dX12_lands_49 rfl (Nat.lt_of_lt_of_le (by decide) hN) (by omega) ?_
        refine E.top (hP.2.2.1 e.2 e2s) ?_
        refine E_ldc (nI 1048576) dX12_lands_50 k_X12_163 ?_
        refine E_idiv dX12_lands_52 (by decide) ?_
        refine E.top (pk_div (a := 1048576 * (cd e.2).1 + (cd e.2).2) (d := 1048576) (by omega) (by decide) (by decide)) ?_
        refine E.top (congrArg nI (show (1048576 * (cd e.2).1 + (cd e.2).2) / 1048576 = (cd e.2).1 by omega)) ?_
        refine E_imul dX12_lands_53 ?_
        refine E.top (pk_mul 1048576 ((cd e.2).1)) ?_
        refine E_aload_n dX12_lands_54 rfl ?_
        refine E_getI dX12_lands_55 f_X12_160 rfl (Nat.lt_of_lt_of_le (by decide) hN) rfl ?_
        refine E.top (hP.2.1) ?_
        refine E_iadd dX12_lands_58 ?_
        refine E.top (nI_add (1048576 * ((cd e.2).1)) s) ?_
        refine E_iastN dX12_lands_59 rfl (Nat.lt_of_lt_of_le (by decide) hN) (by omega) ?_
        refine E_aload_n dX12_lands_60 rfl ?_
        refine E_aload_n dX12_lands_61 rfl ?_
        refine E_getI dX12_lands_62 f_X12_167 rfl (Nat.lt_of_lt_of_le (by decide) hN) rfl ?_
        refine E.top ((congrFun (up2_o I 122 _ _ 114 (by decide)) 14).trans hP.2.2.2.2.1) ?_
        refine E_ic (nI 1) dX12_lands_65 (by decide) ?_
        refine E_isub dX12_lands_66 ?_
        refine E.top (pk_sub (a := K.length + 1) (b := 1) (by omega)) ?_
        refine E.top (congrArg nI (show K.length + 1 - 1 = K.length from rfl)) ?_
        refine E_putI dX12_lands_67 f_X12_167 rfl (Nat.lt_of_lt_of_le (by decide) hN) rfl ?_
        refine E_goto (tgt := 0) dX12_lands_70 (by decide) ?_
        refine E.mask [true, true, false] ?_
        have e5 : ldR true (e :: K) s cd = ldR true K s (cdU cd e.2 ((cd e.2).1, s)) := if_pos hcond
        rw [e5] at hQ
        exact ih (cdU cd e.2 ((cd e.2).1, s)) _ hK.tl (by omega) h3 (PLm.pop (PLm.cd (x := s) (j := e.2) hP)) (fun I3 f3 p3 => hQ I3 (((FLm.row I _ _ (by decide)).trans (FLm.up _ _ (by decide))).trans f3) p3)
      · refine E_iload_n dX12_lands_9 rfl ?_
        refine E_zN_eq (a := 1) (tgt := 73) dX12_lands_10 (by decide) (by decide) (fun cw10 => absurd cw10 (by omega)) (fun cw10 => ?_)
        refine E_aload_n dX12_lands_13 rfl ?_
        refine E_callV (As := []) (ci := 11) (kc' := 0) (ks' := 0) (kc := 0) (ks := 0) dX12_lands_14 ok_X12_waitTop w_X12_170 i_X12_waitTop s_X12_waitTop rfl (by decide) rfl (Nat.lt_of_lt_of_le (by decide) hN) rfl rfl rfl (Nat.le_of_ble_eq_true rfl) (Nat.le_of_ble_eq_true rfl) (by omega) (m_waitTop (d := 0) (K := e :: K) hN hR hv hl hP ?_)
        refine E_bp (nI 12) dX12_lands_17 (by decide) ?_
        refine E_cN_ne (a := e.1) (b := 12) (tgt := 73) dX12_lands_19 (by omega) (by decide) (by decide) (fun cw19 => ?_) (fun cw19 => ?_)
        · exact absurd hcond (by omega)
        · refine E_aload_n dX12_lands_22 rfl ?_
          refine E_getR dX12_lands_23 f_X12_35 rfl (Nat.lt_of_lt_of_le (by decide) hN) rfl (hR _ _ _ rfl) ?_
          refine E_aload_n dX12_lands_26 rfl ?_
          refine E_getI dX12_lands_27 f_X12_167 rfl (Nat.lt_of_lt_of_le (by decide) hN) rfl ?_
          refine E.top (hP.2.2.2.2.1) ?_
          refine E_ic (nI 1) dX12_lands_30 (by decide) ?_
          refine E_isub dX12_lands_31 ?_
          refine E.top (pk_sub (a := K.length + 1) (b := 1) (by omega)) ?_
          refine E.top (congrArg nI (show K.length + 1 - 1 = K.length from rfl)) ?_
          refine E_ialdN dX12_lands_32 rfl (Nat.lt_of_lt_of_le (by decide) hN) (by omega) ?_
          refine E.top (hP.2.2.2.2.2.1) ?_
          refine E_ldc (nI 1048576) dX12_lands_33 k_X12_163 ?_
          refine E_irem dX12_lands_35 (by decide) ?_
          refine E.top (pk_rem (a := 1048576 * e.1 + e.2) (d := 1048576) (by omega) (by decide) (by decide)) ?_
          refine E.top (congrArg nI (show (1048576 * e.1 + e.2) % 1048576 = e.2 by omega)) ?_
          refine E_istore_n dX12_lands_36 (Nat.le_of_ble_eq_true rfl) ?_
          refine E_aload_n dX12_lands_37 rfl ?_
          refine E_getR dX12_lands_38 f_X12_32 rfl (Nat.lt_of_lt_of_le (by decide) hN) rfl (hR _ _ _ rfl) ?_
          refine E_iload_n dX12_lands_41 rfl ?_
          refine E_ldc (nI 1048576) dX12_lands_42 k_X12_163 ?_
          refine E_aload_n dX12_lands_44 rfl ?_
          refine E_getR dX12_lands_45 f_X12_32 rfl (Nat.lt_of_lt_of_le (by decide) hN) rfl (hR _ _ _ rfl) ?_
          refine E_iload_n dX12_lands_48 rfl ?_
          refine E_ialdN dX12_lands_49 rfl (Nat.lt_of_lt_of_le (by decide) hN) (by omega) ?_
          refine E.top (hP.2.2.1 e.2 e2s) ?_
          refine E_ldc (nI 1048576) dX12_lands_50 k_X12_163 ?_
          refine E_idiv dX12_lands_52 (by decide) ?_
          refine E.top (pk_div (a := 1048576 * (cd e.2).1 + (cd e.2).2) (d := 1048576) (by omega) (by decide) (by decide)) ?_
          refine E.top (congrArg nI (show (1048576 * (cd e.2).1 + (cd e.2).2) / 1048576 = (cd e.2).1 by omega)) ?_
          refine E_imul dX12_lands_53 ?_
          refine E.top (pk_mul 1048576 ((cd e.2).1)) ?_
          refine E_aload_n dX12_lands_54 rfl ?_
          refine E_getI dX12_lands_55 f_X12_160 rfl (Nat.lt_of_lt_of_le (by decide) hN) rfl ?_
          refine E.top (hP.2.1) ?_
          refine E_iadd dX12_lands_58 ?_
          refine E.top (nI_add (1048576 * ((cd e.2).1)) s) ?_
          refine E_iastN dX12_lands_59 rfl (Nat.lt_of_lt_of_le (by decide) hN) (by omega) ?_
          refine E_aload_n dX12_lands_60 rfl ?_
          refine E_aload_n dX12_lands_61 rfl ?_
          refine E_getI dX12_lands_62 f_X12_167 rfl (Nat.lt_of_lt_of_le (by decide) hN) rfl ?_
          refine E.top ((congrFun (up2_o I 122 _ _ 114 (by decide)) 14).trans hP.2.2.2.2.1) ?_
          refine E_ic (nI 1) dX12_lands_65 (by decide) ?_
          refine E_isub dX12_lands_66 ?_
          refine E.top (pk_sub (a := K.length + 1) (b := 1) (by omega)) ?_
          refine E.top (congrArg nI (show K.length + 1 - 1 = K.length from rfl)) ?_
          refine E_putI dX12_lands_67 f_X12_167 rfl (Nat.lt_of_lt_of_le (by decide) hN) rfl ?_
          refine E_goto (tgt := 0) dX12_lands_70 (by decide) ?_
          refine E.mask [true, true, false] ?_
          have e5 : ldR true (e :: K) s cd = ldR true K s (cdU cd e.2 ((cd e.2).1, s)) := if_pos hcond
          rw [e5] at hQ
          exact ih (cdU cd e.2 ((cd e.2).1, s)) _ hK.tl (by omega) h3 (PLm.pop (PLm.cd (x := s) (j := e.2) hP)) (fun I3 f3 p3 => hQ I3 (((FLm.row I _ _ (by decide)).trans (FLm.up _ _ (by decide))).trans f3) p3)
    · skip
      refine E_aload_n dX12_lands_0 rfl ?_
      refine E_callV (As := []) (ci := 11) (kc' := 0) (ks' := 0) (kc := 0) (ks := 0) dX12_lands_1 ok_X12_waitTop w_X12_170 i_X12_waitTop s_X12_waitTop rfl (by decide) rfl (Nat.lt_of_lt_of_le (by decide) hN) rfl rfl rfl (Nat.le_of_ble_eq_true rfl) (Nat.le_of_ble_eq_true rfl) (by omega) (m_waitTop (d := 0) (K := e :: K) hN hR hv hl hP ?_)
      refine E_bp (nI 11) dX12_lands_4 (by decide) ?_
      refine E_cN_eq (a := e.1) (b := 11) (tgt := 22) dX12_lands_6 (by omega) (by decide) (by decide) (fun cw6 => ?_) (fun cw6 => ?_)
      · exact absurd (by first | exact Or.inl cw6 | exact Or.inr ⟨rfl, by omega⟩) hcond
      · refine E_iload_n dX12_lands_9 rfl ?_
        refine E_zN_eq (a := 1) (tgt := 73) dX12_lands_10 (by decide) (by decide) (fun cw10 => absurd cw10 (by omega)) (fun cw10 => ?_)
        refine E_aload_n dX12_lands_13 rfl ?_
        refine E_callV (As := []) (ci := 11) (kc' := 0) (ks' := 0) (kc := 0) (ks := 0) dX12_lands_14 ok_X12_waitTop w_X12_170 i_X12_waitTop s_X12_waitTop rfl (by decide) rfl (Nat.lt_of_lt_of_le (by decide) hN) rfl rfl rfl (Nat.le_of_ble_eq_true rfl) (Nat.le_of_ble_eq_true rfl) (by omega) (m_waitTop (d := 0) (K := e :: K) hN hR hv hl hP ?_)
        refine E_bp (nI 12) dX12_lands_17 (by decide) ?_
        refine E_cN_ne (a := e.1) (b := 12) (tgt := 73) dX12_lands_19 (by omega) (by decide) (by decide) (fun cw19 => ?_) (fun cw19 => ?_)
        · exact E_ret dX12_lands_73 rfl ((by rw [show ldR true (e :: K) s cd = (e :: K, cd) from if_neg hcond] at hQ; exact hQ I (FLm.refl I) hP))
        · exact absurd (by first | exact Or.inl cw6 | exact Or.inr ⟨rfl, by omega⟩) hcond
set_option maxRecDepth 100000 in
set_option maxHeartbeats 2000000 in
theorem m_lands0 {k p s : Nat} (hd : 1 ≤ d) (hN : 152 ≤ n) (hR : RS R) (hs : s ≤ 240) : ∀ (K : WK) (cd : CDE) (I : IM), okK s K → K.length < 260 → CDok cd s → PLm k K (p, s, cd) I → (∀ I2 : IM, FLm I I2 → PLm k (ldR false K s cd).1 (p, s, (ldR false K s cd).2) I2 → Q none n I2 J R) → E g mX12_lands d 0 0 0 [.ref 114, .int (nI 0), jk] [] n I J R Q := by
  intro K
  induction K with
  | nil =>
    intro cd I hK hl hcd hP hQ
    have hv := hK.v (by omega)
    refine E_aload_n dX12_lands_0 rfl ?_
    refine E_callV (As := []) (ci := 11) (kc' := 0) (ks' := 0) (kc := 0) (ks := 0) dX12_lands_1 ok_X12_waitTop w_X12_170 i_X12_waitTop s_X12_waitTop rfl (by decide) rfl (Nat.lt_of_lt_of_le (by decide) hN) rfl rfl rfl (Nat.le_of_ble_eq_true rfl) (Nat.le_of_ble_eq_true rfl) (by omega) (m_waitTop (d := 0) (K := []) hN hR hv hl hP ?_)
    refine E_bp (nI 11) dX12_lands_4 (by decide) ?_
    refine E_icmp_eq (tgt := 22) dX12_lands_6 (by decide) (fun cw6 => by first | exact absurd cw6 ((by decide)) | exact absurd ((by decide)) cw6) (fun cw6 => ?_)
    refine E_iload_n dX12_lands_9 rfl ?_
    refine E_zN_eq (a := 0) (tgt := 73) dX12_lands_10 (by decide) (by decide) (fun cw10 => ?_) (fun cw10 => absurd cw10 (by omega))
    exact E_ret dX12_lands_73 rfl (hQ I (FLm.refl I) hP)
  | cons e K ih =>
    intro cd I hK hl hcd hP hQ
    have hv := hK.v (by omega)
    obtain ⟨v1, v2⟩ := hv e List.mem_cons_self
    have hl0 : K.length + 1 < 260 := hl
    by_cases hcond : e.1 = 11 ∨ (false = true ∧ e.1 = 12)
    · have e2s : e.2 < s := by
        rcases hK e List.mem_cons_self with ⟨z | z, y⟩ | ⟨z, y⟩
        · rcases hcond with h | h <;> omega
        · rcases hcond with h | h <;> omega
        · exact y
      obtain ⟨o1, o2⟩ := hcd e.2 e2s
      have h3 : CDok (cdU cd e.2 ((cd e.2).1, s)) s := fun i hi => by
        by_cases z : i = e.2
        · rw [z, cdU_s]
          exact ⟨o1, by show s < 1048576; omega⟩
        · rw [cdU_n z]
          exact hcd i hi
      refine E_aload_n dX12_lands_0 rfl ?_
      refine E_callV (As := []) (ci := 11) (kc' := 0) (ks' := 0) (kc := 0) (ks := 0) dX12_lands_1 ok_X12_waitTop w_X12_170 i_X12_waitTop s_X12_waitTop rfl (by decide) rfl (Nat.lt_of_lt_of_le (by decide) hN) rfl rfl rfl (Nat.le_of_ble_eq_true rfl) (Nat.le_of_ble_eq_true rfl) (by omega) (m_waitTop (d := 0) (K := e :: K) hN hR hv hl hP ?_)
      refine E_bp (nI 11) dX12_lands_4 (by decide) ?_
      refine E_cN_eq (a := e.1) (b := 11) (tgt := 22) dX12_lands_6 (by omega) (by decide) (by decide) (fun cw6 => ?_) (fun cw6 => ?_)
      · refine E_aload_n dX12_lands_22 rfl ?_
        refine E_getR dX12_lands_23 f_X12_35 rfl (Nat.lt_of_lt_of_le (by decide) hN) rfl (hR _ _ _ rfl) ?_
        refine E_aload_n dX12_lands_26 rfl ?_
        refine E_getI dX12_lands_27 f_X12_167 rfl (Nat.lt_of_lt_of_le (by decide) hN) rfl ?_
        refine E.top (hP.2.2.2.2.1) ?_
        refine E_ic (nI 1) dX12_lands_30 (by decide) ?_
        refine E_isub dX12_lands_31 ?_
        refine E.top (pk_sub (a := K.length + 1) (b := 1) (by omega)) ?_
        refine E.top (congrArg nI (show K.length + 1 - 1 = K.length from rfl)) ?_
        refine E_ialdN dX12_lands_32 rfl (Nat.lt_of_lt_of_le (by decide) hN) (by omega) ?_
        refine E.top (hP.2.2.2.2.2.1) ?_
        refine E_ldc (nI 1048576) dX12_lands_33 k_X12_163 ?_
        refine E_irem dX12_lands_35 (by decide) ?_
        refine E.top (pk_rem (a := 1048576 * e.1 + e.2) (d := 1048576) (by omega) (by decide) (by decide)) ?_
        refine E.top (congrArg nI (show (1048576 * e.1 + e.2) % 1048576 = e.2 by omega)) ?_
        refine E_istore_n dX12_lands_36 (Nat.le_of_ble_eq_true rfl) ?_
        refine E_aload_n dX12_lands_37 rfl ?_
        refine E_getR dX12_lands_38 f_X12_32 rfl (Nat.lt_of_lt_of_le (by decide) hN) rfl (hR _ _ _ rfl) ?_
        refine E_iload_n dX12_lands_41 rfl ?_
        refine E_ldc (nI 1048576) dX12_lands_42 k_X12_163 ?_
        refine E_aload_n dX12_lands_44 rfl ?_
        refine E_getR dX12_lands_45 f_X12_32 rfl (Nat.lt_of_lt_of_le (by decide) hN) rfl (hR _ _ _ rfl) ?_
        refine E_iload_n dX12_lands_48 rfl ?_
        refine E_ialdN dX12_lands_49 rfl (Nat.lt_of_lt_of_le (by decide) hN) (by omega) ?_
        refine E.top (hP.2.2.1 e.2 e2s) ?_
        refine E_ldc (nI 1048576) dX12_lands_50 k_X12_163 ?_
        refine E_idiv dX12_lands_52 (by decide) ?_
        refine E.top (pk_div (a := 1048576 * (cd e.2).1 + (cd e.2).2) (d := 1048576) (by omega) (by decide) (by decide)) ?_
        refine E.top (congrArg nI (show (1048576 * (cd e.2).1 + (cd e.2).2) / 1048576 = (cd e.2).1 by omega)) ?_
        refine E_imul dX12_lands_53 ?_
        refine E.top (pk_mul 1048576 ((cd e.2).1)) ?_
        refine E_aload_n dX12_lands_54 rfl ?_
        refine E_getI dX12_lands_55 f_X12_160 rfl (Nat.lt_of_lt_of_le (by decide) hN) rfl ?_
        refine E.top (hP.2.1) ?_
        refine E_iadd dX12_lands_58 ?_
        refine E.top (nI_add (1048576 * ((cd e.2).1)) s) ?_
        refine E_iastN dX12_lands_59 rfl (Nat.lt_of_lt_of_le (by decide) hN) (by omega) ?_
        refine E_aload_n dX12_lands_60 rfl ?_
        refine E_aload_n dX12_lands_61 rfl ?_
        refine E_getI dX12_lands_62 f_X12_167 rfl (Nat.lt_of_lt_of_le (by decide) hN) rfl ?_
        refine E.top ((congrFun (up2_o I 122 _ _ 114 (by decide)) 14).trans hP.2.2.2.2.1) ?_
        refine E_ic (nI 1) dX12_lands_65 (by decide) ?_
        refine E_isub dX12_lands_66 ?_
        refine E.top (pk_sub (a := K.length + 1) (b := 1) (by omega)) ?_
        refine E.top (congrArg nI (show K.length + 1 - 1 = K.length from rfl)) ?_
        refine E_putI dX12_lands_67 f_X12_167 rfl (Nat.lt_of_lt_of_le (by decide) hN) rfl ?_
        refine E_goto (tgt := 0) dX12_lands_70 (by decide) ?_
        refine E.mask [true, true, false] ?_
        have e5 : ldR false (e :: K) s cd = ldR false K s (cdU cd e.2 ((cd e.2).1, s)) := if_pos hcond
        rw [e5] at hQ
        exact ih (cdU cd e.2 ((cd e.2).1, s)) _ hK.tl (by omega) h3 (PLm.pop (PLm.cd (x := s) (j := e.2) hP)) (fun I3 f3 p3 => hQ I3 (((FLm.row I _ _ (by decide)).trans (FLm.up _ _ (by decide))).trans f3) p3)
      · refine E_iload_n dX12_lands_9 rfl ?_
        refine E_zN_eq (a := 0) (tgt := 73) dX12_lands_10 (by decide) (by decide) (fun cw10 => ?_) (fun cw10 => absurd cw10 (by omega))
        exact absurd hcond (by intro z; rcases z with z | z; omega; exact absurd z.1 (by decide))
    · skip
      refine E_aload_n dX12_lands_0 rfl ?_
      refine E_callV (As := []) (ci := 11) (kc' := 0) (ks' := 0) (kc := 0) (ks := 0) dX12_lands_1 ok_X12_waitTop w_X12_170 i_X12_waitTop s_X12_waitTop rfl (by decide) rfl (Nat.lt_of_lt_of_le (by decide) hN) rfl rfl rfl (Nat.le_of_ble_eq_true rfl) (Nat.le_of_ble_eq_true rfl) (by omega) (m_waitTop (d := 0) (K := e :: K) hN hR hv hl hP ?_)
      refine E_bp (nI 11) dX12_lands_4 (by decide) ?_
      refine E_cN_eq (a := e.1) (b := 11) (tgt := 22) dX12_lands_6 (by omega) (by decide) (by decide) (fun cw6 => ?_) (fun cw6 => ?_)
      · exact absurd (by first | exact Or.inl cw6 | exact Or.inr ⟨rfl, by omega⟩) hcond
      · refine E_iload_n dX12_lands_9 rfl ?_
        refine E_zN_eq (a := 0) (tgt := 73) dX12_lands_10 (by decide) (by decide) (fun cw10 => ?_) (fun cw10 => absurd cw10 (by omega))
        exact E_ret dX12_lands_73 rfl ((by rw [show ldR false (e :: K) s cd = (e :: K, cd) from if_neg hcond] at hQ; exact hQ I (FLm.refl I) hP))
set_option maxRecDepth 100000 in
set_option maxHeartbeats 2000000 in
theorem m_jumps {k op : Nat} {K : WK} {q : TS} {I : IM} (hd : 1 ≤ d) (hN : 152 ≤ n) (hR : RS R) (hs : q.2.1 < 260) (hl : K.length < 260) (hP : PLm k K q I) (hQ : ∀ I2 : IM, FLm I I2 → PLm k ((op, q.2.1) :: K) (q.1 + 1, q.2.1 + 1, cdU q.2.2 q.2.1 (op, 0)) I2 → Q none n I2 J R) : E g mX12_jumps d 0 0 0 (ent 2 [.ref 114, .int (nI op)]) [] n I J R Q := by
  refine E_aload_n dX12_jumps_0 rfl ?_
  refine E_getR dX12_jumps_1 f_X12_35 rfl (Nat.lt_of_lt_of_le (by decide) hN) rfl (hR _ _ _ rfl) ?_
  refine E_aload_n dX12_jumps_4 rfl ?_
  refine E_getI dX12_jumps_5 f_X12_167 rfl (Nat.lt_of_lt_of_le (by decide) hN) rfl ?_
  refine E.top (hP.2.2.2.2.1) ?_
  refine E_ldc (nI 1048576) dX12_jumps_8 k_X12_163 ?_
  refine E_iload_n dX12_jumps_10 rfl ?_
  refine E_imul dX12_jumps_11 ?_
  refine E.top (pk_mul 1048576 op) ?_
  refine E_aload_n dX12_jumps_12 rfl ?_
  refine E_getI dX12_jumps_13 f_X12_160 rfl (Nat.lt_of_lt_of_le (by decide) hN) rfl ?_
  refine E.top (hP.2.1) ?_
  refine E_iadd dX12_jumps_16 ?_
  refine E.top (nI_add (1048576 * op) (q.2.1)) ?_
  refine E_iastN dX12_jumps_17 rfl (Nat.lt_of_lt_of_le (by decide) hN) (by omega) ?_
  refine E_aload_n dX12_jumps_18 rfl ?_
  refine E_aload_n dX12_jumps_19 rfl ?_
  refine E_getI dX12_jumps_20 f_X12_167 rfl (Nat.lt_of_lt_of_le (by decide) hN) rfl ?_
  refine E.top ((congrFun (up2_o I 123 _ _ 114 (by decide)) 14).trans hP.2.2.2.2.1) ?_
  refine E_ic (nI 1) dX12_jumps_23 (by decide) ?_
  refine E_iadd dX12_jumps_24 ?_
  refine E.top (nI_add (K.length) 1) ?_
  refine E_putI dX12_jumps_25 f_X12_167 rfl (Nat.lt_of_lt_of_le (by decide) hN) rfl ?_
  refine E_aload_n dX12_jumps_28 rfl ?_
  refine E_iload_n dX12_jumps_29 rfl ?_
  refine E_ic (nI 0) dX12_jumps_30 (by decide) ?_
  refine E_callV (As := [_, _]) (ci := 11) (kc' := 0) (ks' := 0) (kc := 0) (ks := 0) dX12_jumps_31 ok_X12_notes w_X12_173 i_X12_notes s_X12_notes rfl (by decide) rfl (Nat.lt_of_lt_of_le (by decide) hN) rfl rfl rfl (Nat.le_of_ble_eq_true rfl) (Nat.le_of_ble_eq_true rfl) (by omega) (m_notes (d := 0) (op := op) (v := 0) (q := q) hN hR (by omega) (hP.push (op, q.2.1)) (fun I3 f3 p3 => ?_))
  refine E_aload_n dX12_jumps_34 rfl ?_
  refine E_aload_n dX12_jumps_35 rfl ?_
  refine E_getI dX12_jumps_36 f_X12_136 rfl (Nat.lt_of_lt_of_le (by decide) hN) rfl ?_
  refine E.top (p3.1) ?_
  refine E_ic (nI 1) dX12_jumps_39 (by decide) ?_
  refine E_iadd dX12_jumps_40 ?_
  refine E.top (nI_add (q.1) 1) ?_
  refine E_putI dX12_jumps_41 f_X12_136 rfl (Nat.lt_of_lt_of_le (by decide) hN) rfl ?_
  exact E_ret dX12_jumps_44 rfl (hQ _ ((((FLm.row I _ _ (by decide)).trans (FLm.up _ _ (by decide))).trans f3).trans (FLm.up I3 _ (by decide))) (p3.at (q.1 + 1)))
set_option maxRecDepth 100000 in
set_option maxHeartbeats 2000000 in
theorem m_readsCompared {k : Nat} {K : WK} {q : TS} {I : IM} (hd : 5 ≤ d) (hN : 152 ≤ n) (hR : RS R) (hc : okc t L c) (hL : L ≤ 240) (hk : k ≤ 5) (hnk : k + nop K = 6) (hi : ivK L K q) (hC : CLm t L I) (hP : PLm k K q I) (hQ : oP (fun x => ∀ I' : IM, FLm I I' → I' 114 10 = x → Q (some (.int 0)) n I' J R) (fun r => ∀ I' : IM, FLm I I' → PLm (epR k K r).1 (epR k K r).2.1 (epR k K r).2.2 I' → Q (some (.int 1)) n I' J R) (cpL c k q)) : E g mX12_readsCompared d 0 0 0 (ent 2 [.ref 114]) [] n I J R Q := by
  obtain ⟨i1, i2, i3, i4, i5⟩ := hi
  have hKb := i4.b
  have hKv := i4.v (by omega)
  have hKl : K.length < 260 := by omega
  refine E_aload_n dX12_readsCompared_0 rfl ?_
  refine E_callV (As := []) (ci := 11) (kc' := 0) (ks' := 0) (kc := 0) (ks := 0) dX12_readsCompared_1 ok_X12_readsSum w_X12_201 i_X12_readsSum s_X12_readsSum rfl (by decide) rfl (Nat.lt_of_lt_of_le (by decide) hN) rfl rfl rfl (Nat.le_of_ble_eq_true rfl) (Nat.le_of_ble_eq_true rfl) (by omega) (m_readsSum (d := 4) (k := k) (B := K) (q := q) (by decide) hN hR hc hL (by omega) hKb hKv i1 (by omega) i3 hC hP ?_)
  cases hsm : smL c k q with
  | inl x =>
    intro I4 f4 e4
    refine E_zN_ne (a := 0) (tgt := 9) dX12_readsCompared_4 (by decide) (by decide) (fun cw4 => absurd cw4 (by omega)) (fun cw4 => ?_)
    refine E_ic (nI 0) dX12_readsCompared_7 (by decide) ?_
    exact E_zret dX12_readsCompared_8 rfl (by decide) ((show ∀ I2 : IM, FLm I I2 → I2 114 10 = x → Q (some (.int 0)) n I2 J R by rw [show cpL c k q = .inl x from bnd_l hsm] at hQ; exact hQ) I4 f4 e4)
  | inr r =>
    intro I4 f4 p4
    obtain ⟨g1, _, _, _⟩ := sm_ok hc k q r i1 (by omega) hsm
    have hsr := OKP.s (h := 20) (V := V01) g1 (by omega)
    have g5 := g1.2.1
    have g6 := g1.1
    have g4 := g1.2.2.2.1
    by_cases c4 : cmL (c r.1) = 0
    · have nn := cm_no c4
      refine E_zN_ne (a := 1) (tgt := 9) dX12_readsCompared_4 (by decide) (by decide) (fun cw4 => ?_) (fun cw4 => absurd cw4 (by omega))
      refine E_aload_n dX12_readsCompared_9 rfl ?_
      refine E_callV (As := []) (ci := 11) (kc' := 0) (ks' := 0) (kc := 0) (ks := 0) dX12_readsCompared_10 ok_X12_here w_X12_142 i_X12_here s_X12_here rfl (by decide) rfl (Nat.lt_of_lt_of_le (by decide) hN) rfl rfl rfl (Nat.le_of_ble_eq_true rfl) (Nat.le_of_ble_eq_true rfl) (by omega) (m_here (d := 0) hN hR hc (Nat.le_trans hL (by decide)) (hC.keep f4).1 (hC.keep f4).2 (p := r.1) (by omega) p4.1 ?_)
      refine E_bp (nI 60) dX12_readsCompared_13 (by decide) ?_
      refine E_icmp_ne (tgt := 23) dX12_readsCompared_15 (by decide) (fun cw15 => ?_) (fun cw15 => by first | exact absurd cw15 ((fun z => nn.1 ((ch_eq (k := 60) (by decide)).mp z))) | exact absurd ((fun z => nn.1 ((ch_eq (k := 60) (by decide)).mp z))) cw15)
      refine E_aload_n dX12_readsCompared_23 rfl ?_
      refine E_callV (As := []) (ci := 11) (kc' := 0) (ks' := 0) (kc := 0) (ks := 0) dX12_readsCompared_24 ok_X12_here w_X12_142 i_X12_here s_X12_here rfl (by decide) rfl (Nat.lt_of_lt_of_le (by decide) hN) rfl rfl rfl (Nat.le_of_ble_eq_true rfl) (Nat.le_of_ble_eq_true rfl) (by omega) (m_here (d := 0) hN hR hc (Nat.le_trans hL (by decide)) (hC.keep f4).1 (hC.keep f4).2 (p := r.1) (by omega) p4.1 ?_)
      refine E_bp (nI 62) dX12_readsCompared_27 (by decide) ?_
      refine E_icmp_ne (tgt := 37) dX12_readsCompared_29 (by decide) (fun cw29 => ?_) (fun cw29 => by first | exact absurd cw29 ((fun z => nn.2.1 ((ch_eq (k := 62) (by decide)).mp z))) | exact absurd ((fun z => nn.2.1 ((ch_eq (k := 62) (by decide)).mp z))) cw29)
      refine E_aload_n dX12_readsCompared_37 rfl ?_
      refine E_callV (As := []) (ci := 11) (kc' := 0) (ks' := 0) (kc := 0) (ks := 0) dX12_readsCompared_38 ok_X12_here w_X12_142 i_X12_here s_X12_here rfl (by decide) rfl (Nat.lt_of_lt_of_le (by decide) hN) rfl rfl rfl (Nat.le_of_ble_eq_true rfl) (Nat.le_of_ble_eq_true rfl) (by omega) (m_here (d := 0) hN hR hc (Nat.le_trans hL (by decide)) (hC.keep f4).1 (hC.keep f4).2 (p := r.1) (by omega) p4.1 ?_)
      refine E_bp (nI 61) dX12_readsCompared_41 (by decide) ?_
      refine E_icmp_ne (tgt := 51) dX12_readsCompared_43 (by decide) (fun cw43 => ?_) (fun cw43 => by first | exact absurd cw43 ((fun z => nn.2.2 ((ch_eq (k := 61) (by decide)).mp z))) | exact absurd ((fun z => nn.2.2 ((ch_eq (k := 61) (by decide)).mp z))) cw43)
      refine E_ic (-1) dX12_readsCompared_51 (by decide) ?_
      refine E_istore_n dX12_readsCompared_52 (Nat.le_of_ble_eq_true rfl) ?_
      refine E_iload_n dX12_readsCompared_53 rfl ?_
      refine E_ic (-1) dX12_readsCompared_54 (by decide) ?_
      refine E_icmp_ne (tgt := 68) dX12_readsCompared_55 (by decide) (fun cw55 => by first | exact absurd cw55 (rfl) | exact absurd (rfl) cw55) (fun cw55 => ?_)
      refine E_aload_n dX12_readsCompared_58 rfl ?_
      refine E_ic (nI 1) dX12_readsCompared_59 (by decide) ?_
      refine E_aload_n dX12_readsCompared_60 rfl ?_
      refine E_getI dX12_readsCompared_61 f_X12_136 rfl (Nat.lt_of_lt_of_le (by decide) hN) rfl ?_
      refine E.top (p4.1) ?_
      refine E_callV (As := [_, _]) (ci := 11) (kc' := 0) (ks' := 0) (kc := 0) (ks := 0) dX12_readsCompared_64 ok_X12_wrongAt w_X12_149 i_X12_wrongAt s_X12_wrongAt rfl (by decide) rfl (Nat.lt_of_lt_of_le (by decide) hN) rfl rfl rfl (Nat.le_of_ble_eq_true rfl) (Nat.le_of_ble_eq_true rfl) (by omega) (m_wrongAt (d := 0) (k := 1) (q := r.1) hN ?_)
      exact E_zret dX12_readsCompared_67 rfl (by decide) ((show ∀ I2 : IM, FLm I I2 → I2 114 10 = flt 1 r.1 → Q (some (.int 0)) n I2 J R by rw [show cpL c k q = .inl (flt 1 r.1) from (bnd_r hsm).trans (if_pos c4)] at hQ; exact hQ) _ (f4.trans (FLm.up I4 _ (by decide))) (up2_s _ _ _ _))
    · obtain ⟨m1, m2, m3⟩ := cm_lt c4
      have hpr := hc.lt m1
      have k52 : E g mX12_readsCompared d 0 0 52 [.ref 114, jk] [.int (nI (cmL (c r.1)))] n I4 J R Q := by
        refine E_istore_n dX12_readsCompared_52 (Nat.le_of_ble_eq_true rfl) ?_
        refine E_iload_n dX12_readsCompared_53 rfl ?_
        refine E_ic (-1) dX12_readsCompared_54 (by decide) ?_
        refine E_icmp_ne (tgt := 68) dX12_readsCompared_55 (by decide) (fun cw55 => ?_) (fun cw55 => by first | exact absurd cw55 (nI_m1 (by omega)) | exact absurd (nI_m1 (by omega)) cw55)
        refine E_aload_n dX12_readsCompared_68 rfl ?_
        refine E_aload_n dX12_readsCompared_69 rfl ?_
        refine E_getI dX12_readsCompared_70 f_X12_136 rfl (Nat.lt_of_lt_of_le (by decide) hN) rfl ?_
        refine E.top (p4.1) ?_
        refine E_ic (nI 1) dX12_readsCompared_73 (by decide) ?_
        refine E_iadd dX12_readsCompared_74 ?_
        refine E.top (nI_add (r.1) 1) ?_
        refine E_putI dX12_readsCompared_75 f_X12_136 rfl (Nat.lt_of_lt_of_le (by decide) hN) rfl ?_
        refine E_aload_n dX12_readsCompared_78 rfl ?_
        refine E_callV (As := []) (ci := 11) (kc' := 0) (ks' := 0) (kc := 0) (ks := 0) dX12_readsCompared_79 ok_X12_readsSum w_X12_201 i_X12_readsSum s_X12_readsSum rfl (by decide) rfl (Nat.lt_of_lt_of_le (by decide) hN) rfl rfl rfl (Nat.le_of_ble_eq_true rfl) (Nat.le_of_ble_eq_true rfl) (by omega) (m_readsSum (d := 4) (k := k) (B := K) (q := (r.1 + 1, r.2)) (by decide) hN hR hc hL (by omega) hKb hKv hpr (Nat.le_succ_of_le hsr) (by show K.length ≤ r.1 + 1; omega) ((hC.keep f4).keep (FLm.up I4 (nI (r.1 + 1)) (by decide))) (p4.at (r.1 + 1)) ?_)
        cases hs2 : smL c k (r.1 + 1, r.2) with
        | inl x =>
          intro I5 f5 e5
          refine E_zN_ne (a := 0) (tgt := 87) dX12_readsCompared_82 (by decide) (by decide) (fun cw82 => absurd cw82 (by omega)) (fun cw82 => ?_)
          refine E_ic (nI 0) dX12_readsCompared_85 (by decide) ?_
          exact E_zret dX12_readsCompared_86 rfl (by decide) ((show ∀ I2 : IM, FLm I I2 → I2 114 10 = x → Q (some (.int 0)) n I2 J R by rw [show cpL c k q = .inl x from (bnd_r hsm).trans ((if_neg c4).trans (bnd_l hs2))] at hQ; exact hQ) I5 ((f4.trans (FLm.up I4 (nI (r.1 + 1)) (by decide))).trans f5) e5)
        | inr r2 =>
          intro I5 f5 p5
          obtain ⟨k1, _, _, _⟩ := sm_ok hc k (r.1 + 1, r.2) r2 hpr (Nat.le_succ_of_le hsr) hs2
          have k5 := k1.2.1
          have k4 : r2.2.1 + (r.1 + 1) + 0 ≤ r2.1 + r.2.1 + 0 := k1.2.2.2.1
          refine E_zN_ne (a := 1) (tgt := 87) dX12_readsCompared_82 (by decide) (by decide) (fun cw82 => ?_) (fun cw82 => absurd cw82 (by omega))
          refine E_aload_n dX12_readsCompared_87 rfl ?_
          refine E_iload_n dX12_readsCompared_88 rfl ?_
          refine E_ic (nI 0) dX12_readsCompared_89 (by decide) ?_
          refine E_callV (As := [_, _]) (ci := 11) (kc' := 0) (ks' := 0) (kc := 0) (ks := 0) dX12_readsCompared_90 ok_X12_notes w_X12_173 i_X12_notes s_X12_notes rfl (by decide) rfl (Nat.lt_of_lt_of_le (by decide) hN) rfl rfl rfl (Nat.le_of_ble_eq_true rfl) (Nat.le_of_ble_eq_true rfl) (by omega) (m_notes (d := 0) (op := cmL (c r.1)) (v := 0) (q := r2) hN hR (by omega) p5 (fun I6 f6 p6 => ?_))
          refine E_aload_n dX12_readsCompared_93 rfl ?_
          refine E_callV (As := []) (ci := 11) (kc' := 0) (ks' := 0) (kc := 0) (ks := 0) dX12_readsCompared_94 ok_X12_endsPiece w_X12_204 i_X12_endsPiece s_X12_endsPiece rfl (by decide) rfl (Nat.lt_of_lt_of_le (by decide) hN) rfl rfl rfl (Nat.le_of_ble_eq_true rfl) (Nat.le_of_ble_eq_true rfl) (by omega) (m_endsPiece (d := 1) (by decide) hN hR K k (emL (cmL (c r.1)) r2) I6 hKv hKl (by rw [emL_n c4]; show r2.2.1 + 1 + n10 K ≤ 250; omega) hnk (by rw [emL_n c4]; exact p6) (fun I7 f7 p7 => ?_))
          refine E_ic (nI 1) dX12_readsCompared_97 (by decide) ?_
          exact E_zret dX12_readsCompared_98 rfl (by decide) ((show ∀ I2 : IM, FLm I I2 → PLm (epR k K (emL (cmL (c r.1)) r2)).1 (epR k K (emL (cmL (c r.1)) r2)).2.1 (epR k K (emL (cmL (c r.1)) r2)).2.2 I2 → Q (some (.int 1)) n I2 J R by rw [show cpL c k q = .inr (emL (cmL (c r.1)) r2) from (bnd_r hsm).trans ((if_neg c4).trans (bnd_r hs2))] at hQ; exact hQ) I7 ((((f4.trans (FLm.up I4 (nI (r.1 + 1)) (by decide))).trans f5).trans f6).trans f7) p7)
      rcases (cm_wh c4).2 with m60 | m62 | m61
      · skip
        refine E_zN_ne (a := 1) (tgt := 9) dX12_readsCompared_4 (by decide) (by decide) (fun cw4 => ?_) (fun cw4 => absurd cw4 (by omega))
        refine E_aload_n dX12_readsCompared_9 rfl ?_
        refine E_callV (As := []) (ci := 11) (kc' := 0) (ks' := 0) (kc := 0) (ks := 0) dX12_readsCompared_10 ok_X12_here w_X12_142 i_X12_here s_X12_here rfl (by decide) rfl (Nat.lt_of_lt_of_le (by decide) hN) rfl rfl rfl (Nat.le_of_ble_eq_true rfl) (Nat.le_of_ble_eq_true rfl) (by omega) (m_here (d := 0) hN hR hc (Nat.le_trans hL (by decide)) (hC.keep f4).1 (hC.keep f4).2 (p := r.1) (by omega) p4.1 ?_)
        refine E_bp (nI 60) dX12_readsCompared_13 (by decide) ?_
        refine E_icmp_ne (tgt := 23) dX12_readsCompared_15 (by decide) (fun cw15 => by first | exact absurd cw15 ((ch_eq (k := 60) (by decide)).mpr m60) | exact absurd ((ch_eq (k := 60) (by decide)).mpr m60) cw15) (fun cw15 => ?_)
        refine E_bp (nI 7) dX12_readsCompared_18 (by decide) ?_
        refine E_goto (tgt := 52) dX12_readsCompared_20 (by decide) ?_
        refine E.top (congrArg nI (show 7 = cmL (c r.1) by rw [m60]; rfl)) ?_
        exact k52
      · skip
        refine E_zN_ne (a := 1) (tgt := 9) dX12_readsCompared_4 (by decide) (by decide) (fun cw4 => ?_) (fun cw4 => absurd cw4 (by omega))
        refine E_aload_n dX12_readsCompared_9 rfl ?_
        refine E_callV (As := []) (ci := 11) (kc' := 0) (ks' := 0) (kc := 0) (ks := 0) dX12_readsCompared_10 ok_X12_here w_X12_142 i_X12_here s_X12_here rfl (by decide) rfl (Nat.lt_of_lt_of_le (by decide) hN) rfl rfl rfl (Nat.le_of_ble_eq_true rfl) (Nat.le_of_ble_eq_true rfl) (by omega) (m_here (d := 0) hN hR hc (Nat.le_trans hL (by decide)) (hC.keep f4).1 (hC.keep f4).2 (p := r.1) (by omega) p4.1 ?_)
        refine E_bp (nI 60) dX12_readsCompared_13 (by decide) ?_
        refine E_icmp_ne (tgt := 23) dX12_readsCompared_15 (by decide) (fun cw15 => ?_) (fun cw15 => by first | exact absurd cw15 ((fun z => by have := (ch_eq (k := 60) (by decide)).mp z; omega)) | exact absurd ((fun z => by have := (ch_eq (k := 60) (by decide)).mp z; omega)) cw15)
        refine E_aload_n dX12_readsCompared_23 rfl ?_
        refine E_callV (As := []) (ci := 11) (kc' := 0) (ks' := 0) (kc := 0) (ks := 0) dX12_readsCompared_24 ok_X12_here w_X12_142 i_X12_here s_X12_here rfl (by decide) rfl (Nat.lt_of_lt_of_le (by decide) hN) rfl rfl rfl (Nat.le_of_ble_eq_true rfl) (Nat.le_of_ble_eq_true rfl) (by omega) (m_here (d := 0) hN hR hc (Nat.le_trans hL (by decide)) (hC.keep f4).1 (hC.keep f4).2 (p := r.1) (by omega) p4.1 ?_)
        refine E_bp (nI 62) dX12_readsCompared_27 (by decide) ?_
        refine E_icmp_ne (tgt := 37) dX12_readsCompared_29 (by decide) (fun cw29 => by first | exact absurd cw29 ((ch_eq (k := 62) (by decide)).mpr m62) | exact absurd ((ch_eq (k := 62) (by decide)).mpr m62) cw29) (fun cw29 => ?_)
        refine E_bp (nI 8) dX12_readsCompared_32 (by decide) ?_
        refine E_goto (tgt := 52) dX12_readsCompared_34 (by decide) ?_
        refine E.top (congrArg nI (show 8 = cmL (c r.1) by rw [m62]; rfl)) ?_
        exact k52
      · skip
        refine E_zN_ne (a := 1) (tgt := 9) dX12_readsCompared_4 (by decide) (by decide) (fun cw4 => ?_) (fun cw4 => absurd cw4 (by omega))
        refine E_aload_n dX12_readsCompared_9 rfl ?_
        refine E_callV (As := []) (ci := 11) (kc' := 0) (ks' := 0) (kc := 0) (ks := 0) dX12_readsCompared_10 ok_X12_here w_X12_142 i_X12_here s_X12_here rfl (by decide) rfl (Nat.lt_of_lt_of_le (by decide) hN) rfl rfl rfl (Nat.le_of_ble_eq_true rfl) (Nat.le_of_ble_eq_true rfl) (by omega) (m_here (d := 0) hN hR hc (Nat.le_trans hL (by decide)) (hC.keep f4).1 (hC.keep f4).2 (p := r.1) (by omega) p4.1 ?_)
        refine E_bp (nI 60) dX12_readsCompared_13 (by decide) ?_
        refine E_icmp_ne (tgt := 23) dX12_readsCompared_15 (by decide) (fun cw15 => ?_) (fun cw15 => by first | exact absurd cw15 ((fun z => by have := (ch_eq (k := 60) (by decide)).mp z; omega)) | exact absurd ((fun z => by have := (ch_eq (k := 60) (by decide)).mp z; omega)) cw15)
        refine E_aload_n dX12_readsCompared_23 rfl ?_
        refine E_callV (As := []) (ci := 11) (kc' := 0) (ks' := 0) (kc := 0) (ks := 0) dX12_readsCompared_24 ok_X12_here w_X12_142 i_X12_here s_X12_here rfl (by decide) rfl (Nat.lt_of_lt_of_le (by decide) hN) rfl rfl rfl (Nat.le_of_ble_eq_true rfl) (Nat.le_of_ble_eq_true rfl) (by omega) (m_here (d := 0) hN hR hc (Nat.le_trans hL (by decide)) (hC.keep f4).1 (hC.keep f4).2 (p := r.1) (by omega) p4.1 ?_)
        refine E_bp (nI 62) dX12_readsCompared_27 (by decide) ?_
        refine E_icmp_ne (tgt := 37) dX12_readsCompared_29 (by decide) (fun cw29 => ?_) (fun cw29 => by first | exact absurd cw29 ((fun z => by have := (ch_eq (k := 62) (by decide)).mp z; omega)) | exact absurd ((fun z => by have := (ch_eq (k := 62) (by decide)).mp z; omega)) cw29)
        refine E_aload_n dX12_readsCompared_37 rfl ?_
        refine E_callV (As := []) (ci := 11) (kc' := 0) (ks' := 0) (kc := 0) (ks := 0) dX12_readsCompared_38 ok_X12_here w_X12_142 i_X12_here s_X12_here rfl (by decide) rfl (Nat.lt_of_lt_of_le (by decide) hN) rfl rfl rfl (Nat.le_of_ble_eq_true rfl) (Nat.le_of_ble_eq_true rfl) (by omega) (m_here (d := 0) hN hR hc (Nat.le_trans hL (by decide)) (hC.keep f4).1 (hC.keep f4).2 (p := r.1) (by omega) p4.1 ?_)
        refine E_bp (nI 61) dX12_readsCompared_41 (by decide) ?_
        refine E_icmp_ne (tgt := 51) dX12_readsCompared_43 (by decide) (fun cw43 => by first | exact absurd cw43 ((ch_eq (k := 61) (by decide)).mpr m61) | exact absurd ((ch_eq (k := 61) (by decide)).mpr m61) cw43) (fun cw43 => ?_)
        refine E_bp (nI 9) dX12_readsCompared_46 (by decide) ?_
        refine E_goto (tgt := 52) dX12_readsCompared_48 (by decide) ?_
        refine E.top (congrArg nI (show 9 = cmL (c r.1) by rw [m61]; rfl)) ?_
        exact k52
end PLawM5
