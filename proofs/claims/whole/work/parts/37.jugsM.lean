/-! ===== jugs, the reference ===== -/
def kjS (W s : Nat) : Nat := 441 * amS W s 0 + 21 * amS W s 1 + amS W s 2
theorem kr_d {W s : Nat} {B : Nat → Nat} (hB : ∀ i, i < 3 → B i ≤ 20) (h : vJ W B s) : kjS W s / 441 = amS W s 0 ∧ kjS W s / 21 % 21 = amS W s 1 ∧ kjS W s % 21 = amS W s 2 ∧ kjS W s < 9261 := by
  have a0 := h.2 0 (by decide)
  have a1 := h.2 1 (by decide)
  have a2 := h.2 2 (by decide)
  have b0 := hB 0 (by decide)
  have b1 := hB 1 (by decide)
  have b2 := hB 2 (by decide)
  unfold kjS
  refine ⟨?_, ?_, ?_, ?_⟩ <;> omega
theorem kr_i {W s s' : Nat} {B : Nat → Nat} (hB : ∀ i, i < 3 → B i ≤ 20) (h : vJ W B s) (h' : vJ W B s') (e : kjS W s = kjS W s') : s = s' := by
  have a := kr_d hB h
  have b := kr_d hB h'
  rw [e] at a
  have e0 : s / 21 = s' / 21 := a.1.symm.trans b.1
  have e1 : s % 21 = s' % 21 := a.2.1.symm.trans b.2.1
  omega
def MJ (W : Nat) (B : Nat → Nat) (b : BS) (I : IM) : Prop := (∀ i, i < b.1 → I 150 i = nI (kjS W (b.2.1 i))) ∧ ∀ s, vJ W B s → I 147 (kjS W s) = dnI (b.2.2 s)
theorem nI_mn (a b : Nat) : nI (if a < b then a else b) = nI (min a b) := by
  congr 1
  by_cases h : a < b
  · rw [if_pos h]
    omega
  · rw [if_neg h]
    omega
theorem up_id {I : IM} {c a b : Nat} {f : Nat → Nat} (e : a = b) (ho : ∀ i, i < 3 → I c i = nI (f i)) : ∀ i, i < 3 → up2 (up2 I c a (nI (f a - 0))) c b (nI (f b - 0 + 0)) c i = nI (f i) := by
  intro i hi
  subst e
  by_cases e1 : i = a
  · subst e1
    exact up2_s _ _ _ _
  · rw [up2_k _ _ e1, up2_k _ _ e1]
    exact ho i hi
section PJugsM
variable {g : GL} {d n : Nat} {I : IM} {J : JM} {R : RM} {Q : PQ} {σ : ST}
set_option maxRecDepth 100000 in
set_option maxHeartbeats 2000000 in
theorem m_laysJugs {W s : Nat} {B : Nat → Nat} (hN : 152 ≤ n) (hR : RS R) (hB20 : ∀ i, i < 3 → B i ≤ 20) (hv : vJ W B s) (hQ : ∀ I2 : IM, (∀ x, x ≠ 149 → I2 x = I x) → (∀ i, i < 3 → I2 149 i = nI (amS W s i)) → Q none n I2 J R) : E g mX12_laysJugs d 0 0 0 (ent 2 [.ref 114, .int (nI (kjS W s))]) [] n I J R Q := by
  obtain ⟨k0, k1, k2, k3⟩ := kr_d hB20 hv
  refine E_aload_n dX12_laysJugs_0 rfl ?_
  refine E_getR dX12_laysJugs_1 f_X12_115 rfl (Nat.lt_of_lt_of_le (by decide) hN) rfl (hR _ _ _ rfl) ?_
  refine E_ic (nI 0) dX12_laysJugs_4 (by decide) ?_
  refine E_iload_n dX12_laysJugs_5 rfl ?_
  refine E_sp (nI 441) dX12_laysJugs_6 (by decide) ?_
  refine E_idiv dX12_laysJugs_9 (by decide) ?_
  refine E.top (pk_div (a := kjS W s) (d := 441) (by omega) (by decide) (by decide)) ?_
  refine E.top (congrArg nI k0) ?_
  refine E_iastN dX12_laysJugs_10 rfl (Nat.lt_of_lt_of_le (by decide) hN) (by decide) ?_
  refine E_aload_n dX12_laysJugs_11 rfl ?_
  refine E_getR dX12_laysJugs_12 f_X12_115 rfl (Nat.lt_of_lt_of_le (by decide) hN) rfl (hR _ _ _ rfl) ?_
  refine E_ic (nI 1) dX12_laysJugs_15 (by decide) ?_
  refine E_iload_n dX12_laysJugs_16 rfl ?_
  refine E_bp (nI 21) dX12_laysJugs_17 (by decide) ?_
  refine E_idiv dX12_laysJugs_19 (by decide) ?_
  refine E.top (pk_div (a := kjS W s) (d := 21) (by omega) (by decide) (by decide)) ?_
  refine E_bp (nI 21) dX12_laysJugs_20 (by decide) ?_
  refine E_irem dX12_laysJugs_22 (by decide) ?_
  refine E.top (pk_rem (a := (kjS W s) / 21) (d := 21) (by omega) (by decide) (by decide)) ?_
  refine E.top (congrArg nI k1) ?_
  refine E_iastN dX12_laysJugs_23 rfl (Nat.lt_of_lt_of_le (by decide) hN) (by decide) ?_
  refine E_aload_n dX12_laysJugs_24 rfl ?_
  refine E_getR dX12_laysJugs_25 f_X12_115 rfl (Nat.lt_of_lt_of_le (by decide) hN) rfl (hR _ _ _ rfl) ?_
  refine E_ic (nI 2) dX12_laysJugs_28 (by decide) ?_
  refine E_iload_n dX12_laysJugs_29 rfl ?_
  refine E_bp (nI 21) dX12_laysJugs_30 (by decide) ?_
  refine E_irem dX12_laysJugs_32 (by decide) ?_
  refine E.top (pk_rem (a := kjS W s) (d := 21) (by omega) (by decide) (by decide)) ?_
  refine E.top (congrArg nI k2) ?_
  refine E_iastN dX12_laysJugs_33 rfl (Nat.lt_of_lt_of_le (by decide) hN) (by decide) ?_
  exact E_ret dX12_laysJugs_34 rfl (hQ _ (fun x hx => (up2_o _ 149 _ _ x hx).trans ((up2_o _ 149 _ _ x hx).trans (up2_o I 149 _ _ x hx))) (fun i hi => by
      have ci : i = 0 ∨ i = 1 ∨ i = 2 := by omega
      rcases ci with rfl | rfl | rfl
      · exact (up2_k _ _ (by decide)).trans ((up2_k _ _ (by decide)).trans (up2_s _ _ _ _))
      · exact (up2_k _ _ (by decide)).trans (up2_s _ _ _ _)
      · exact up2_s _ _ _ _))
set_option maxRecDepth 100000 in
set_option maxHeartbeats 2000000 in
theorem m_jugState {f : Nat → Nat} (hN : 152 ≤ n) (hR : RS R) (ho : ∀ i, i < 3 → I 149 i = nI (f i)) (hQ : Q (some (.int (nI (441 * f 0 + 21 * f 1 + f 2)))) n I J R) : E g mX12_jugState d 0 0 0 (ent 1 [.ref 114]) [] n I J R Q := by
  refine E_sp (nI 441) dX12_jugState_0 (by decide) ?_
  refine E_aload_n dX12_jugState_3 rfl ?_
  refine E_getR dX12_jugState_4 f_X12_115 rfl (Nat.lt_of_lt_of_le (by decide) hN) rfl (hR _ _ _ rfl) ?_
  refine E_ic (nI 0) dX12_jugState_7 (by decide) ?_
  refine E_ialdN dX12_jugState_8 rfl (Nat.lt_of_lt_of_le (by decide) hN) (by decide) ?_
  refine E.top (ho 0 (by decide)) ?_
  refine E_imul dX12_jugState_9 ?_
  refine E.top (pk_mul 441 (f 0)) ?_
  refine E_bp (nI 21) dX12_jugState_10 (by decide) ?_
  refine E_aload_n dX12_jugState_12 rfl ?_
  refine E_getR dX12_jugState_13 f_X12_115 rfl (Nat.lt_of_lt_of_le (by decide) hN) rfl (hR _ _ _ rfl) ?_
  refine E_ic (nI 1) dX12_jugState_16 (by decide) ?_
  refine E_ialdN dX12_jugState_17 rfl (Nat.lt_of_lt_of_le (by decide) hN) (by decide) ?_
  refine E.top (ho 1 (by decide)) ?_
  refine E_imul dX12_jugState_18 ?_
  refine E.top (pk_mul 21 (f 1)) ?_
  refine E_iadd dX12_jugState_19 ?_
  refine E.top (nI_add (441 * (f 0)) (21 * (f 1))) ?_
  refine E_aload_n dX12_jugState_20 rfl ?_
  refine E_getR dX12_jugState_21 f_X12_115 rfl (Nat.lt_of_lt_of_le (by decide) hN) rfl (hR _ _ _ rfl) ?_
  refine E_ic (nI 2) dX12_jugState_24 (by decide) ?_
  refine E_ialdN dX12_jugState_25 rfl (Nat.lt_of_lt_of_le (by decide) hN) (by decide) ?_
  refine E.top (ho 2 (by decide)) ?_
  refine E_iadd dX12_jugState_26 ?_
  refine E.top (nI_add ((441 * (f 0)) + (21 * (f 1))) (f 2)) ?_
  exact E_iret dX12_jugState_27 rfl (hQ)
set_option maxRecDepth 100000 in
set_option maxHeartbeats 2000000 in
theorem m_anyFull {f : Nat → Nat} {m : Nat} (hN : 152 ≤ n) (hR : RS R) (ho : ∀ i, i < 3 → I 149 i = nI (f i)) (hf : ∀ i, i < 3 → f i < 1000) (hm : m < 1000) (ht : (f 0 = m ∨ f 1 = m ∨ f 2 = m) → Q (some (.int 1)) n I J R) (hn : ¬ (f 0 = m ∨ f 1 = m ∨ f 2 = m) → Q (some (.int 0)) n I J R) : E g mX12_isAnyFull d 0 0 0 (ent 2 [.ref 114, .int (nI m)]) [] n I J R Q := by
  have f0 := hf 0 (by decide)
  have f1 := hf 1 (by decide)
  have f2 := hf 2 (by decide)
  refine E_aload_n dX12_isAnyFull_0 rfl ?_
  refine E_getR dX12_isAnyFull_1 f_X12_115 rfl (Nat.lt_of_lt_of_le (by decide) hN) rfl (hR _ _ _ rfl) ?_
  refine E_ic (nI 0) dX12_isAnyFull_4 (by decide) ?_
  refine E_ialdN dX12_isAnyFull_5 rfl (Nat.lt_of_lt_of_le (by decide) hN) (by decide) ?_
  refine E.top (ho 0 (by decide)) ?_
  refine E_iload_n dX12_isAnyFull_6 rfl ?_
  refine E_cN_eq (a := f 0) (b := m) (tgt := 30) dX12_isAnyFull_7 (by omega) (by omega) (by decide) (fun c7 => ?_) (fun c7 => ?_)
  · refine E_ic (nI 1) dX12_isAnyFull_30 (by decide) ?_
    refine E_goto (tgt := 35) dX12_isAnyFull_31 (by decide) ?_
    exact E_zret dX12_isAnyFull_35 rfl (by decide) (by first | exact ht (Or.inl c7) | exact ht (Or.inr (Or.inl c17)) | exact ht (Or.inr (Or.inr c27)) | exact hn (fun z => z.elim c7 (fun z => z.elim c17 c27)))
  · refine E_aload_n dX12_isAnyFull_10 rfl ?_
    refine E_getR dX12_isAnyFull_11 f_X12_115 rfl (Nat.lt_of_lt_of_le (by decide) hN) rfl (hR _ _ _ rfl) ?_
    refine E_ic (nI 1) dX12_isAnyFull_14 (by decide) ?_
    refine E_ialdN dX12_isAnyFull_15 rfl (Nat.lt_of_lt_of_le (by decide) hN) (by decide) ?_
    refine E.top (ho 1 (by decide)) ?_
    refine E_iload_n dX12_isAnyFull_16 rfl ?_
    refine E_cN_eq (a := f 1) (b := m) (tgt := 30) dX12_isAnyFull_17 (by omega) (by omega) (by decide) (fun c17 => ?_) (fun c17 => ?_)
    · refine E_ic (nI 1) dX12_isAnyFull_30 (by decide) ?_
      refine E_goto (tgt := 35) dX12_isAnyFull_31 (by decide) ?_
      exact E_zret dX12_isAnyFull_35 rfl (by decide) (by first | exact ht (Or.inl c7) | exact ht (Or.inr (Or.inl c17)) | exact ht (Or.inr (Or.inr c27)) | exact hn (fun z => z.elim c7 (fun z => z.elim c17 c27)))
    · refine E_aload_n dX12_isAnyFull_20 rfl ?_
      refine E_getR dX12_isAnyFull_21 f_X12_115 rfl (Nat.lt_of_lt_of_le (by decide) hN) rfl (hR _ _ _ rfl) ?_
      refine E_ic (nI 2) dX12_isAnyFull_24 (by decide) ?_
      refine E_ialdN dX12_isAnyFull_25 rfl (Nat.lt_of_lt_of_le (by decide) hN) (by decide) ?_
      refine E.top (ho 2 (by decide)) ?_
      refine E_iload_n dX12_isAnyFull_26 rfl ?_
      refine E_cN_ne (a := f 2) (b := m) (tgt := 34) dX12_isAnyFull_27 (by omega) (by omega) (by decide) (fun c27 => ?_) (fun c27 => ?_)
      · refine E_ic (nI 0) dX12_isAnyFull_34 (by decide) ?_
        exact E_zret dX12_isAnyFull_35 rfl (by decide) (by first | exact ht (Or.inl c7) | exact ht (Or.inr (Or.inl c17)) | exact ht (Or.inr (Or.inr c27)) | exact hn (fun z => z.elim c7 (fun z => z.elim c17 c27)))
      · refine E_ic (nI 1) dX12_isAnyFull_30 (by decide) ?_
        refine E_goto (tgt := 35) dX12_isAnyFull_31 (by decide) ?_
        exact E_zret dX12_isAnyFull_35 rfl (by decide) (by first | exact ht (Or.inl c7) | exact ht (Or.inr (Or.inl c17)) | exact ht (Or.inr (Or.inr c27)) | exact hn (fun z => z.elim c7 (fun z => z.elim c17 c27)))
set_option maxRecDepth 100000 in
set_option maxHeartbeats 2000000 in
theorem sm_jugs (x w : Int32) : SM mX12_jugs [.int x, .int w] (r_jugs x w) (u_jugs x w) := by
  intro g n I J R σ Q hB hM hN hR hQ
  have b9 : σ 9 0 0 ≤ 260 := hB.2.2.2.2.2.1
  unfold r_jugs u_jugs at hQ
  have hNO : ¬ gJ σ x w → Q (some (.int (-1))) n I J R := fun hno => by
    rw [gd_f hno] at hQ
    rw [gd_f hno] at hQ
    exact hQ I J hM (fun _ _ => rfl) rfl (fun _ _ _ => rfl)
  by_cases hx : rg x 20
  · obtain ⟨m, hm, rfl⟩ := hx
    by_cases hw : rg w 1
    · obtain ⟨v, hv, rfl⟩ := hw
      by_cases h6 : 6 ≤ σ 9 0 0
      · have hg : gJ σ (nI m) (nI v) := ⟨rg_of (by omega), rg_of (by omega), h6⟩
        rw [gd_t hg] at hQ
        rw [gd_t hg, nI_clamp (n := m) (by omega)] at hQ
        have hT : MT σ ((up2 I 114 7 (nI 0)) 121) := hM.2.2.2.2.1
        have Lj : ∀ j, j ≤ 3 → ∀ I2 : IM, ((∀ x, x ≠ 148 → x ≠ 149 → I2 x = (up2 I 114 7 (nI 0)) x) ∧ ∀ i, i < j → I2 148 i = nI (jgB σ i) ∧ I2 149 i = nI (jgF σ i) ∧ jgB σ i ≤ 20 ∧ jgF σ i ≤ jgB σ i) → E g mX12_jugs 900 0 0 37 [.ref 114, .int (nI m), .int (nI v), .int (nI j), jk, jk, jk, jk, jk, jk] [] n I2 J R Q := by
          refine loopU 3 (fun I2 hv2 => ?_) (fun j hj ihj I2 hv2 => ?_)
          · have z : ∀ j, j < 3 → jgB σ j ≤ 20 ∧ jgF σ j ≤ jgB σ j := fun j hj => (hv2.2 j hj).2.2
            rw [gd_f (fun y => y z)] at hQ
            obtain ⟨v1, v2, v3, v4⟩ := b0_ok z
            have hB20 : ∀ i, i < 3 → jgB σ i ≤ 20 := fun i hi => (z i hi).1
            have hq := fun (I4 : IM) (f4 : (∀ x, x ≠ 147 → x ≠ 148 → x ≠ 149 → x ≠ 150 → I4 x = (up2 I 114 7 (nI 0)) x)) => hQ I4 J (MR.congr (u0_M hM) (f4 118 (by decide) (by decide) (by decide) (by decide)) (f4 119 (by decide) (by decide) (by decide) (by decide)) (f4 120 (by decide) (by decide) (by decide) (by decide)) (f4 115 (by decide) (by decide) (by decide) (by decide)) (f4 117 (by decide) (by decide) (by decide) (by decide)) (f4 114 (by decide) (by decide) (by decide) (by decide)) (f4 121 (by decide) (by decide) (by decide) (by decide)) (f4 140 (by decide) (by decide) (by decide) (by decide))) (fun a a1 => (f4 a (by omega) (by omega) (by omega) (by omega)).trans (up2_o I 114 7 _ a (by omega))) (by rw [f4 114 (by decide) (by decide) (by decide) (by decide)]; rfl) (fun a a1 a2 => (f4 a (by omega) (by omega) (by omega) (by omega)).trans (up2_o I 114 7 _ a (by omega)))
            have hend : ∀ (e : Nat) (I2 : IM), (∀ x, x ≠ 147 → x ≠ 148 → x ≠ 149 → x ≠ 150 → I2 x = (up2 I 114 7 (nI 0)) x) → (jrS (mvS (jgW σ) (jgB σ)) (b0S σ) e).1 ≤ e → e ≤ 441 → e ≤ (jrS (mvS (jgW σ) (jgB σ)) (b0S σ) e).1 → E g mX12_jugs 900 0 0 374 [.ref 114, .int (nI m), .int (nI v), .int (nI ((jrS (mvS (jgW σ) (jgB σ)) (b0S σ) e).1)), .int (ftS (hitS (jgW σ) m) (jrS (mvS (jgW σ) (jgB σ)) (b0S σ) e) e), .int (nI e), jk, jk, jk, jk] [] n I2 J R Q := by
              intro e I2 fr h1 h2 h3
              refine E_iload_n dX12_jugs_374 rfl ?_
              refine E_zN_ne (a := v) (tgt := 383) dX12_jugs_375 (by omega) (by decide) (fun c375 => ?_) (fun c375 => ?_)
              · refine E_iload_n dX12_jugs_383 rfl ?_
                exact E_iret dX12_jugs_384 rfl (by first | (have hq := hq I2 fr; rw [if_pos (congrArg nI c375)] at hq; rw [show enS σ = (jrS (mvS (jgW σ) (jgB σ)) (b0S σ) e) from jrS_end h1 h2, show (jrS (mvS (jgW σ) (jgB σ)) (b0S σ) e).1 = e by omega] at hq; exact hq) | (have hq := hq I2 fr; rw [if_neg (fun z => by have := (nI_eq (by omega) (by decide)).mp z; omega)] at hq; rw [show enS σ = (jrS (mvS (jgW σ) (jgB σ)) (b0S σ) e) from jrS_end h1 h2] at hq; exact hq))
              · refine E_iload dX12_jugs_378 rfl ?_
                refine E_goto (tgt := 384) dX12_jugs_380 (by decide) ?_
                exact E_iret dX12_jugs_384 rfl (by first | (have hq := hq I2 fr; rw [if_pos (congrArg nI c375)] at hq; rw [show enS σ = (jrS (mvS (jgW σ) (jgB σ)) (b0S σ) e) from jrS_end h1 h2, show (jrS (mvS (jgW σ) (jgB σ)) (b0S σ) e).1 = e by omega] at hq; exact hq) | (have hq := hq I2 fr; rw [if_neg (fun z => by have := (nI_eq (by omega) (by decide)).mp z; omega)] at hq; rw [show enS σ = (jrS (mvS (jgW σ) (jgB σ)) (b0S σ) e) from jrS_end h1 h2] at hq; exact hq))
            have Le : ∀ e, e ≤ 441 → ∀ I2 : IM, (((∀ x, x ≠ 147 → x ≠ 148 → x ≠ 149 → x ≠ 150 → I2 x = (up2 I 114 7 (nI 0)) x) ∧ ∀ i, i < 3 → I2 148 i = nI (jgB σ i)) ∧ MJ (jgW σ) (jgB σ) (jrS (mvS (jgW σ) (jgB σ)) (b0S σ) e) I2 ∧ e ≤ (jrS (mvS (jgW σ) (jgB σ)) (b0S σ) e).1) → E g mX12_jugs 900 0 0 158 [.ref 114, .int (nI m), .int (nI v), .int (nI ((jrS (mvS (jgW σ) (jgB σ)) (b0S σ) e).1)), .int (ftS (hitS (jgW σ) m) (jrS (mvS (jgW σ) (jgB σ)) (b0S σ) e) e), .int (nI e), jk, jk, jk, jk] [] n I2 J R Q := by
              refine loopU 441 (fun I2 hv2 => ?_) (fun e he4 ihe I2 hv2 => ?_)
              · have wj := jrS_ok v3 (vJ_lt hB20) (mv_ok hB20) 441
                have cl := cnS_le (jrS (mvS (jgW σ) (jgB σ)) (b0S σ) 441).2.2 441
                rw [wj.2.1] at cl
                refine E_iload dX12_jugs_158 rfl ?_
                refine E_iload_n dX12_jugs_160 rfl ?_
                refine E_cN_ge (a := 441) (b := (jrS (mvS (jgW σ) (jgB σ)) (b0S σ) 441).1) (tgt := 374) dX12_jugs_161 (by decide) (by omega) (by decide) (fun c161 => ?_) (fun c161 => absurd c161 (by omega))
                exact hend 441 I2 hv2.1.1 (by omega) (Nat.le_refl _) (by omega)
              · have hh4 : e ≤ 441 := by omega
                have wj := jrS_ok v3 (vJ_lt hB20) (mv_ok hB20) e
                have cl := cnS_le (jrS (mvS (jgW σ) (jgB σ)) (b0S σ) e).2.2 441
                rw [wj.2.1] at cl
                refine E_iload dX12_jugs_158 rfl ?_
                refine E_iload_n dX12_jugs_160 rfl ?_
                refine E_cN_ge (a := e) (b := (jrS (mvS (jgW σ) (jgB σ)) (b0S σ) e).1) (tgt := 374) dX12_jugs_161 (by omega) (by omega) (by decide) (fun c161 => ?_) (fun c161 => ?_)
                · exact hend e I2 hv2.1.1 (by omega) hh4 (by omega)
                · have hh : e < (jrS (mvS (jgW σ) (jgB σ)) (b0S σ) e).1 := c161
                  have vq := (wj.1 e hh).1
                  have Lc : ∀ c, c ≤ 9 → ∀ I4 : IM, (((∀ x, x ≠ 147 → x ≠ 148 → x ≠ 149 → x ≠ 150 → I4 x = (up2 I 114 7 (nI 0)) x) ∧ ∀ i, i < 3 → I4 148 i = nI (jgB σ i)) ∧ MJ (jgW σ) (jgB σ) (exJ (mvS (jgW σ) (jgB σ)) (jrS (mvS (jgW σ) (jgB σ)) (b0S σ) e) e c) I4) → E g mX12_jugs 900 0 0 207 [.ref 114, .int (nI m), .int (nI v), .int (nI ((exJ (mvS (jgW σ) (jgB σ)) (jrS (mvS (jgW σ) (jgB σ)) (b0S σ) e) e c).1)), .int (ftS (hitS (jgW σ) m) (jrS (mvS (jgW σ) (jgB σ)) (b0S σ) e) (e + 1)), .int (nI e), .int (nI c), jk, jk, jk] [] n I4 J R Q := by
                    refine loopU 9 (fun I4 hv => ?_) (fun c hc ihc I4 hv => ?_)
                    · have e2 := (exJ_ok wj hh (vJ_lt hB20) (mv_ok hB20) 9 (Nat.le_refl _)).2
                      refine E_iload dX12_jugs_207 rfl ?_
                      refine E_bp (nI 9) dX12_jugs_209 (by decide) ?_
                      refine E_cN_ge (a := 9) (b := 9) (tgt := 368) dX12_jugs_211 (by decide) (by decide) (by decide) (fun c211 => ?_) (fun c211 => absurd c211 (by omega))
                      refine E_incN dX12_jugs_368 rfl ?_
                      refine E_goto (tgt := 158) dX12_jugs_371 (by decide) ?_
                      refine E.mask [true, true, true, true, true, true, false, false, false, false] ?_
                      have ihe := ihe I4 ⟨hv.1, ?_, ?_⟩
                      · rw [jrS_t hh, show ftS (hitS (jgW σ) m) (exJ (mvS (jgW σ) (jgB σ)) (jrS (mvS (jgW σ) (jgB σ)) (b0S σ) e) e 9) (e + 1) = (ftS (hitS (jgW σ) m) (jrS (mvS (jgW σ) (jgB σ)) (b0S σ) e) (e + 1)) from ftS_e (e + 1) (fun i hi => ⟨e2.2.1 i (by omega), e2.2.2 _ (wj.1 i (by omega)).2⟩)] at ihe
                        exact ihe
                      · rw [jrS_t hh]
                        exact hv.2
                      · rw [jrS_t hh]
                        have := e2.1
                        omega
                    · obtain ⟨w2, e2⟩ := exJ_ok wj hh (vJ_lt hB20) (mv_ok hB20) c (by omega)
                      have vk := (wj.1 e hh).1
                      have vk2 := mv_ok hB20 ((jrS (mvS (jgW σ) (jgB σ)) (b0S σ) e).2.1 e) c vk hc
                      have cl2 := cnS_le (exJ (mvS (jgW σ) (jgB σ)) (jrS (mvS (jgW σ) (jgB σ)) (b0S σ) e) e c).2.2 441
                      rw [w2.2.1] at cl2
                      have pb2 := w2.2.2 (mvS (jgW σ) (jgB σ) ((jrS (mvS (jgW σ) (jgB σ)) (b0S σ) e).2.1 e) c)
                      have H309 : ∀ I7 : IM, ((∀ x, x ≠ 149 → I7 x = I4 x) ∧ ∀ i, i < 3 → I7 149 i = nI (amS (jgW σ) (mvS (jgW σ) (jgB σ) ((jrS (mvS (jgW σ) (jgB σ)) (b0S σ) e).2.1 e) c) i)) → E g mX12_jugs 900 0 0 309 [.ref 114, .int (nI m), .int (nI v), .int (nI ((exJ (mvS (jgW σ) (jgB σ)) (jrS (mvS (jgW σ) (jgB σ)) (b0S σ) e) e c).1)), .int (ftS (hitS (jgW σ) m) (jrS (mvS (jgW σ) (jgB σ)) (b0S σ) e) (e + 1)), .int (nI e), .int (nI c), jk, jk, jk] [] n I7 J R Q := by
                        intro I7 ⟨f8, o7⟩
                        refine E_aload_n dX12_jugs_309 rfl ?_
                        refine E_getR dX12_jugs_310 f_X12_109 rfl (Nat.lt_of_lt_of_le (by decide) hN) rfl (hR _ _ _ rfl) ?_
                        refine E_aload_n dX12_jugs_313 rfl ?_
                        refine E_callV (As := []) (ci := 11) (kc' := 0) (ks' := 0) (kc := 0) (ks := 0) dX12_jugs_314 ok_X12_jugState w_X12_405 i_X12_jugState s_X12_jugState rfl (by decide) rfl (Nat.lt_of_lt_of_le (by decide) hN) rfl rfl rfl (Nat.le_of_ble_eq_true rfl) (Nat.le_of_ble_eq_true rfl) (Nat.le_refl _) (m_jugState (f := amS (jgW σ) (mvS (jgW σ) (jgB σ) ((jrS (mvS (jgW σ) (jgB σ)) (b0S σ) e).2.1 e) c)) hN hR o7 ?_)
                        refine E_ialdN dX12_jugs_317 rfl (Nat.lt_of_lt_of_le (by decide) hN) (kr_d hB20 vk2).2.2.2 ?_
                        refine E.top ((congrFun (f8 147 (by decide)) _).trans (hv.2.2 _ vk2)) ?_
                        refine E_ic (-1) dX12_jugs_318 (by decide) ?_
                        refine E_icmp_eq (tgt := 325) dX12_jugs_319 (by decide) (fun c319 => ?_) (fun c319 => ?_)
                        · have z0 : (exJ (mvS (jgW σ) (jgB σ)) (jrS (mvS (jgW σ) (jgB σ)) (b0S σ) e) e c).2.2 (mvS (jgW σ) (jgB σ) ((jrS (mvS (jgW σ) (jgB σ)) (b0S σ) e).2.1 e) c) = 0 := (dn_no (by omega)).mp c319
                          have lt := cnS_lt z0 441 (vJ_lt hB20 _ vk2)
                          rw [w2.2.1] at lt
                          refine E_aload_n dX12_jugs_325 rfl ?_
                          refine E_getR dX12_jugs_326 f_X12_109 rfl (Nat.lt_of_lt_of_le (by decide) hN) rfl (hR _ _ _ rfl) ?_
                          refine E_aload_n dX12_jugs_329 rfl ?_
                          refine E_callV (As := []) (ci := 11) (kc' := 0) (ks' := 0) (kc := 0) (ks := 0) dX12_jugs_330 ok_X12_jugState w_X12_405 i_X12_jugState s_X12_jugState rfl (by decide) rfl (Nat.lt_of_lt_of_le (by decide) hN) rfl rfl rfl (Nat.le_of_ble_eq_true rfl) (Nat.le_of_ble_eq_true rfl) (Nat.le_refl _) (m_jugState (f := amS (jgW σ) (mvS (jgW σ) (jgB σ) ((jrS (mvS (jgW σ) (jgB σ)) (b0S σ) e).2.1 e) c)) hN hR o7 ?_)
                          refine E_aload_n dX12_jugs_333 rfl ?_
                          refine E_getR dX12_jugs_334 f_X12_109 rfl (Nat.lt_of_lt_of_le (by decide) hN) rfl (hR _ _ _ rfl) ?_
                          refine E_aload_n dX12_jugs_337 rfl ?_
                          refine E_getR dX12_jugs_338 f_X12_118 rfl (Nat.lt_of_lt_of_le (by decide) hN) rfl (hR _ _ _ rfl) ?_
                          refine E_iload dX12_jugs_341 rfl ?_
                          refine E_ialdN dX12_jugs_343 rfl (Nat.lt_of_lt_of_le (by decide) hN) (by have := e2.1; omega) ?_
                          refine E.top ((congrFun (f8 150 (by decide)) e).trans ((hv.2.1 e (by have := e2.1; omega)).trans (congrArg (fun y => nI (kjS (jgW σ) y)) (e2.2.1 e hh)))) ?_
                          refine E_ialdN dX12_jugs_344 rfl (Nat.lt_of_lt_of_le (by decide) hN) (kr_d hB20 vk).2.2.2 ?_
                          refine E.top ((congrFun (f8 147 (by decide)) _).trans ((hv.2.2 _ vk).trans ((congrArg dnI (e2.2.2 _ (wj.1 e hh).2)).trans (dn_p (wj.1 e hh).2)))) ?_
                          refine E_ic (nI 1) dX12_jugs_345 (by decide) ?_
                          refine E_iadd dX12_jugs_346 ?_
                          refine E.top (nI_add (((jrS (mvS (jgW σ) (jgB σ)) (b0S σ) e).2.2 ((jrS (mvS (jgW σ) (jgB σ)) (b0S σ) e).2.1 e)) - 1) 1) ?_
                          refine E.top (congrArg nI (Nat.sub_add_cancel (Nat.pos_of_ne_zero (wj.1 e hh).2))) ?_
                          refine E_iastN dX12_jugs_347 rfl (Nat.lt_of_lt_of_le (by decide) hN) (kr_d hB20 vk2).2.2.2 ?_
                          refine E_aload_n dX12_jugs_348 rfl ?_
                          refine E_getR dX12_jugs_349 f_X12_118 rfl (Nat.lt_of_lt_of_le (by decide) hN) rfl (hR _ _ _ rfl) ?_
                          refine E_iload_n dX12_jugs_352 rfl ?_
                          refine E_aload_n dX12_jugs_353 rfl ?_
                          refine E_callV (As := []) (ci := 11) (kc' := 0) (ks' := 0) (kc := 0) (ks := 0) dX12_jugs_354 ok_X12_jugState w_X12_405 i_X12_jugState s_X12_jugState rfl (by decide) rfl (Nat.lt_of_lt_of_le (by decide) hN) rfl rfl rfl (Nat.le_of_ble_eq_true rfl) (Nat.le_of_ble_eq_true rfl) (Nat.le_refl _) (m_jugState (f := amS (jgW σ) (mvS (jgW σ) (jgB σ) ((jrS (mvS (jgW σ) (jgB σ)) (b0S σ) e).2.1 e) c)) hN hR (fun i hi => (congrFun (up2_o I7 147 _ _ 149 (by decide)) i).trans (o7 i hi)) ?_)
                          refine E_iastN dX12_jugs_357 rfl (Nat.lt_of_lt_of_le (by decide) hN) (by omega) ?_
                          refine E_iload_n dX12_jugs_358 rfl ?_
                          refine E_ic (nI 1) dX12_jugs_359 (by decide) ?_
                          refine E_iadd dX12_jugs_360 ?_
                          refine E.top (nI_add ((exJ (mvS (jgW σ) (jgB σ)) (jrS (mvS (jgW σ) (jgB σ)) (b0S σ) e) e c).1) 1) ?_
                          refine E_istore_n dX12_jugs_361 (Nat.le_of_ble_eq_true rfl) ?_
                          refine E_incN dX12_jugs_362 rfl ?_
                          refine E_goto (tgt := 207) dX12_jugs_365 (by decide) ?_
                          refine E.mask [true, true, true, true, true, true, true, false, false, false] ?_
                          have ihc := ihc (up2 (up2 I7 147 (kjS (jgW σ) (mvS (jgW σ) (jgB σ) ((jrS (mvS (jgW σ) (jgB σ)) (b0S σ) e).2.1 e) c)) (nI ((jrS (mvS (jgW σ) (jgB σ)) (b0S σ) e).2.2 ((jrS (mvS (jgW σ) (jgB σ)) (b0S σ) e).2.1 e)))) 150 (exJ (mvS (jgW σ) (jgB σ)) (jrS (mvS (jgW σ) (jgB σ)) (b0S σ) e) e c).1 (nI (kjS (jgW σ) (mvS (jgW σ) (jgB σ) ((jrS (mvS (jgW σ) (jgB σ)) (b0S σ) e).2.1 e) c)))) ⟨⟨fun x h1 h2 h3 h4 => (up2_o _ 150 _ _ x h4).trans ((up2_o _ 147 _ _ x h1).trans ((f8 x h3).trans (hv.1.1 x h1 h2 h3 h4))), fun i hi => (congrFun ((up2_o _ 150 _ _ 148 (by decide)).trans ((up2_o _ 147 _ _ 148 (by decide)).trans (f8 148 (by decide)))) i).trans (hv.1.2 i hi)⟩, ?_⟩
                          · rw [show (exJ (mvS (jgW σ) (jgB σ)) (jrS (mvS (jgW σ) (jgB σ)) (b0S σ) e) e (c + 1)) = nt (exJ (mvS (jgW σ) (jgB σ)) (jrS (mvS (jgW σ) (jgB σ)) (b0S σ) e) e c) (mvS (jgW σ) (jgB σ) ((jrS (mvS (jgW σ) (jgB σ)) (b0S σ) e).2.1 e) c) (((jrS (mvS (jgW σ) (jgB σ)) (b0S σ) e).2.2 ((jrS (mvS (jgW σ) (jgB σ)) (b0S σ) e).2.1 e)) + 1) from rfl, nt_t z0] at ihc
                            exact ihc
                          · rw [show (exJ (mvS (jgW σ) (jgB σ)) (jrS (mvS (jgW σ) (jgB σ)) (b0S σ) e) e (c + 1)) = nt (exJ (mvS (jgW σ) (jgB σ)) (jrS (mvS (jgW σ) (jgB σ)) (b0S σ) e) e c) (mvS (jgW σ) (jgB σ) ((jrS (mvS (jgW σ) (jgB σ)) (b0S σ) e).2.1 e) c) (((jrS (mvS (jgW σ) (jgB σ)) (b0S σ) e).2.2 ((jrS (mvS (jgW σ) (jgB σ)) (b0S σ) e).2.1 e)) + 1) from rfl, nt_t z0]
                            refine ⟨fun i hi => ?_, fun s hs => ?_⟩
                            · show _ = nI (kjS (jgW σ) (up1 (exJ (mvS (jgW σ) (jgB σ)) (jrS (mvS (jgW σ) (jgB σ)) (b0S σ) e) e c).2.1 (exJ (mvS (jgW σ) (jgB σ)) (jrS (mvS (jgW σ) (jgB σ)) (b0S σ) e) e c).1 (mvS (jgW σ) (jgB σ) ((jrS (mvS (jgW σ) (jgB σ)) (b0S σ) e).2.1 e) c) i))
                              by_cases ee : i = (exJ (mvS (jgW σ) (jgB σ)) (jrS (mvS (jgW σ) (jgB σ)) (b0S σ) e) e c).1
                              · rw [show up1 (exJ (mvS (jgW σ) (jgB σ)) (jrS (mvS (jgW σ) (jgB σ)) (b0S σ) e) e c).2.1 (exJ (mvS (jgW σ) (jgB σ)) (jrS (mvS (jgW σ) (jgB σ)) (b0S σ) e) e c).1 (mvS (jgW σ) (jgB σ) ((jrS (mvS (jgW σ) (jgB σ)) (b0S σ) e).2.1 e) c) i = (mvS (jgW σ) (jgB σ) ((jrS (mvS (jgW σ) (jgB σ)) (b0S σ) e).2.1 e) c) from if_pos ee, ee]
                                exact up2_s _ _ _ _
                              · rw [show up1 (exJ (mvS (jgW σ) (jgB σ)) (jrS (mvS (jgW σ) (jgB σ)) (b0S σ) e) e c).2.1 (exJ (mvS (jgW σ) (jgB σ)) (jrS (mvS (jgW σ) (jgB σ)) (b0S σ) e) e c).1 (mvS (jgW σ) (jgB σ) ((jrS (mvS (jgW σ) (jgB σ)) (b0S σ) e).2.1 e) c) i = (exJ (mvS (jgW σ) (jgB σ)) (jrS (mvS (jgW σ) (jgB σ)) (b0S σ) e) e c).2.1 i from if_neg ee, up2_k _ _ ee, up2_o _ 147 _ _ 150 (by decide), f8 150 (by decide)]
                                exact hv.2.1 i (by have : i < (exJ (mvS (jgW σ) (jgB σ)) (jrS (mvS (jgW σ) (jgB σ)) (b0S σ) e) e c).1 + 1 := hi; omega)
                            · show _ = dnI (up1 (exJ (mvS (jgW σ) (jgB σ)) (jrS (mvS (jgW σ) (jgB σ)) (b0S σ) e) e c).2.2 (mvS (jgW σ) (jgB σ) ((jrS (mvS (jgW σ) (jgB σ)) (b0S σ) e).2.1 e) c) (((jrS (mvS (jgW σ) (jgB σ)) (b0S σ) e).2.2 ((jrS (mvS (jgW σ) (jgB σ)) (b0S σ) e).2.1 e)) + 1) s)
                              rw [up2_o _ 150 _ _ 147 (by decide)]
                              by_cases ee : s = (mvS (jgW σ) (jgB σ) ((jrS (mvS (jgW σ) (jgB σ)) (b0S σ) e).2.1 e) c)
                              · rw [show up1 (exJ (mvS (jgW σ) (jgB σ)) (jrS (mvS (jgW σ) (jgB σ)) (b0S σ) e) e c).2.2 (mvS (jgW σ) (jgB σ) ((jrS (mvS (jgW σ) (jgB σ)) (b0S σ) e).2.1 e) c) (((jrS (mvS (jgW σ) (jgB σ)) (b0S σ) e).2.2 ((jrS (mvS (jgW σ) (jgB σ)) (b0S σ) e).2.1 e)) + 1) s = ((jrS (mvS (jgW σ) (jgB σ)) (b0S σ) e).2.2 ((jrS (mvS (jgW σ) (jgB σ)) (b0S σ) e).2.1 e)) + 1 from if_pos ee, ee]
                                exact up2_s _ _ _ _
                              · rw [show up1 (exJ (mvS (jgW σ) (jgB σ)) (jrS (mvS (jgW σ) (jgB σ)) (b0S σ) e) e c).2.2 (mvS (jgW σ) (jgB σ) ((jrS (mvS (jgW σ) (jgB σ)) (b0S σ) e).2.1 e) c) (((jrS (mvS (jgW σ) (jgB σ)) (b0S σ) e).2.2 ((jrS (mvS (jgW σ) (jgB σ)) (b0S σ) e).2.1 e)) + 1) s = (exJ (mvS (jgW σ) (jgB σ)) (jrS (mvS (jgW σ) (jgB σ)) (b0S σ) e) e c).2.2 s from if_neg ee, up2_k _ _ (fun y => ee (kr_i hB20 hs vk2 y)), f8 147 (by decide)]
                                exact hv.2.2 s hs
                        · refine E_goto (tgt := 362) dX12_jugs_322 (by decide) ?_
                          refine E_incN dX12_jugs_362 rfl ?_
                          refine E_goto (tgt := 207) dX12_jugs_365 (by decide) ?_
                          refine E.mask [true, true, true, true, true, true, true, false, false, false] ?_
                          have ihc := ihc I7 ⟨⟨fun x h1 h2 h3 h4 => (f8 x h3).trans (hv.1.1 x h1 h2 h3 h4), fun i hi => (congrFun (f8 148 (by decide)) i).trans (hv.1.2 i hi)⟩, ?_⟩
                          · rw [show (exJ (mvS (jgW σ) (jgB σ)) (jrS (mvS (jgW σ) (jgB σ)) (b0S σ) e) e (c + 1)) = nt (exJ (mvS (jgW σ) (jgB σ)) (jrS (mvS (jgW σ) (jgB σ)) (b0S σ) e) e c) (mvS (jgW σ) (jgB σ) ((jrS (mvS (jgW σ) (jgB σ)) (b0S σ) e).2.1 e) c) (((jrS (mvS (jgW σ) (jgB σ)) (b0S σ) e).2.2 ((jrS (mvS (jgW σ) (jgB σ)) (b0S σ) e).2.1 e)) + 1) from rfl, nt_f (fun y => c319 ((dn_no (by omega)).mpr y))] at ihc
                            exact ihc
                          · rw [show (exJ (mvS (jgW σ) (jgB σ)) (jrS (mvS (jgW σ) (jgB σ)) (b0S σ) e) e (c + 1)) = nt (exJ (mvS (jgW σ) (jgB σ)) (jrS (mvS (jgW σ) (jgB σ)) (b0S σ) e) e c) (mvS (jgW σ) (jgB σ) ((jrS (mvS (jgW σ) (jgB σ)) (b0S σ) e).2.1 e) c) (((jrS (mvS (jgW σ) (jgB σ)) (b0S σ) e).2.2 ((jrS (mvS (jgW σ) (jgB σ)) (b0S σ) e).2.1 e)) + 1) from rfl, nt_f (fun y => c319 ((dn_no (by omega)).mpr y))]
                            exact ⟨fun i hi => (congrFun (f8 150 (by decide)) i).trans (hv.2.1 i hi), fun s hs => (congrFun (f8 147 (by decide)) _).trans (hv.2.2 s hs)⟩
                      refine E_iload dX12_jugs_207 rfl ?_
                      refine E_bp (nI 9) dX12_jugs_209 (by decide) ?_
                      refine E_cN_ge (a := c) (b := 9) (tgt := 368) dX12_jugs_211 (by omega) (by decide) (by decide) (fun c211 => absurd c211 (by omega)) (fun c211 => ?_)
                      refine E_aload_n dX12_jugs_214 rfl ?_
                      refine E_aload_n dX12_jugs_215 rfl ?_
                      refine E_getR dX12_jugs_216 f_X12_118 rfl (Nat.lt_of_lt_of_le (by decide) hN) rfl (hR _ _ _ rfl) ?_
                      refine E_iload dX12_jugs_219 rfl ?_
                      refine E_ialdN dX12_jugs_221 rfl (Nat.lt_of_lt_of_le (by decide) hN) (by have := e2.1; omega) ?_
                      refine E.top ((hv.2.1 e (by have := e2.1; omega)).trans (congrArg (fun y => nI (kjS (jgW σ) y)) (e2.2.1 e hh))) ?_
                      refine E_callV (As := [_]) (ci := 11) (kc' := 0) (ks' := 0) (kc := 0) (ks := 0) dX12_jugs_222 ok_X12_laysJugs w_X12_408 i_X12_laysJugs s_X12_laysJugs rfl (by decide) rfl (Nat.lt_of_lt_of_le (by decide) hN) rfl rfl rfl (Nat.le_of_ble_eq_true rfl) (Nat.le_of_ble_eq_true rfl) (Nat.le_refl _) (m_laysJugs (d := 899) hN hR hB20 vk (fun I5 f5 o5 => ?_))
                      refine E_iload dX12_jugs_225 rfl ?_
                      refine E_ic (nI 3) dX12_jugs_227 (by decide) ?_
                      refine E_idiv dX12_jugs_228 (by decide) ?_
                      refine E.top (pk_div (a := c) (d := 3) (by omega) (by decide) (by decide)) ?_
                      refine E_istore dX12_jugs_229 (Nat.le_of_ble_eq_true rfl) ?_
                      refine E_iload dX12_jugs_231 rfl ?_
                      refine E_ic (nI 3) dX12_jugs_233 (by decide) ?_
                      refine E_irem dX12_jugs_234 (by decide) ?_
                      refine E.top (pk_rem (a := c) (d := 3) (by omega) (by decide) (by decide)) ?_
                      refine E_istore dX12_jugs_235 (Nat.le_of_ble_eq_true rfl) ?_
                      refine E_iload dX12_jugs_237 rfl ?_
                      refine E_iload dX12_jugs_239 rfl ?_
                      refine E_cN_ne (a := c / 3) (b := c % 3) (tgt := 248) dX12_jugs_241 (by omega) (by omega) (by decide) (fun c241 => ?_) (fun c241 => ?_)
                      · have am1 := vk.2 (c / 3) (by omega)
                        have am2 := vk.2 (c % 3) (by omega)
                        have am3 := hB20 (c / 3) (by omega)
                        have am4 := hB20 (c % 3) (by omega)
                        refine E_aload_n dX12_jugs_248 rfl ?_
                        refine E_getR dX12_jugs_249 f_X12_115 rfl (Nat.lt_of_lt_of_le (by decide) hN) rfl (hR _ _ _ rfl) ?_
                        refine E_iload dX12_jugs_252 rfl ?_
                        refine E_ialdN dX12_jugs_254 rfl (Nat.lt_of_lt_of_le (by decide) hN) (by omega) ?_
                        refine E.top (o5 (c / 3) (by omega)) ?_
                        refine E_aload_n dX12_jugs_255 rfl ?_
                        refine E_getR dX12_jugs_256 f_X12_112 rfl (Nat.lt_of_lt_of_le (by decide) hN) rfl (hR _ _ _ rfl) ?_
                        refine E_iload dX12_jugs_259 rfl ?_
                        refine E_ialdN dX12_jugs_261 rfl (Nat.lt_of_lt_of_le (by decide) hN) (by omega) ?_
                        refine E.top ((congrFun (f5 148 (by decide)) _).trans (hv.1.2 (c % 3) (by omega))) ?_
                        refine E_aload_n dX12_jugs_262 rfl ?_
                        refine E_getR dX12_jugs_263 f_X12_115 rfl (Nat.lt_of_lt_of_le (by decide) hN) rfl (hR _ _ _ rfl) ?_
                        refine E_iload dX12_jugs_266 rfl ?_
                        refine E_ialdN dX12_jugs_268 rfl (Nat.lt_of_lt_of_le (by decide) hN) (by omega) ?_
                        refine E.top (o5 (c % 3) (by omega)) ?_
                        refine E_isub dX12_jugs_269 ?_
                        refine E.top (pk_sub (a := jgB σ (c % 3)) (b := amS (jgW σ) ((jrS (mvS (jgW σ) (jgB σ)) (b0S σ) e).2.1 e) (c % 3)) (vk.2 (c % 3) (by omega))) ?_
                        refine E_callS (As := [_, _]) (kc' := 0) (ks' := 0) (kc := 0) (ks := 0) dX12_jugs_270 ok_X12_min w_X12_292 st_X12_min rfl rfl rfl (Nat.le_of_ble_eq_true rfl) (Nat.le_of_ble_eq_true rfl) (Nat.le_refl _) (m_min ?_)
                        refine E.top ((nI_ite (by omega) (by omega)).trans (nI_mn _ _)) ?_
                        refine E_istore dX12_jugs_273 (Nat.le_of_ble_eq_true rfl) ?_
                        refine E_aload_n dX12_jugs_275 rfl ?_
                        refine E_getR dX12_jugs_276 f_X12_115 rfl (Nat.lt_of_lt_of_le (by decide) hN) rfl (hR _ _ _ rfl) ?_
                        refine E_iload dX12_jugs_279 rfl ?_
                        refine E_aload_n dX12_jugs_281 rfl ?_
                        refine E_getR dX12_jugs_282 f_X12_115 rfl (Nat.lt_of_lt_of_le (by decide) hN) rfl (hR _ _ _ rfl) ?_
                        refine E_iload dX12_jugs_285 rfl ?_
                        refine E_ialdN dX12_jugs_287 rfl (Nat.lt_of_lt_of_le (by decide) hN) (by omega) ?_
                        refine E.top (o5 (c / 3) (by omega)) ?_
                        refine E_iload dX12_jugs_288 rfl ?_
                        refine E_isub dX12_jugs_290 ?_
                        refine E.top (pk_sub (a := amS (jgW σ) ((jrS (mvS (jgW σ) (jgB σ)) (b0S σ) e).2.1 e) (c / 3)) (b := min ((amS (jgW σ) ((jrS (mvS (jgW σ) (jgB σ)) (b0S σ) e).2.1 e)) (c / 3)) (jgB σ (c % 3) - (amS (jgW σ) ((jrS (mvS (jgW σ) (jgB σ)) (b0S σ) e).2.1 e)) (c % 3))) (Nat.min_le_left _ _)) ?_
                        refine E_iastN dX12_jugs_291 rfl (Nat.lt_of_lt_of_le (by decide) hN) (by omega) ?_
                        refine E_aload_n dX12_jugs_292 rfl ?_
                        refine E_getR dX12_jugs_293 f_X12_115 rfl (Nat.lt_of_lt_of_le (by decide) hN) rfl (hR _ _ _ rfl) ?_
                        refine E_iload dX12_jugs_296 rfl ?_
                        refine E_aload_n dX12_jugs_298 rfl ?_
                        refine E_getR dX12_jugs_299 f_X12_115 rfl (Nat.lt_of_lt_of_le (by decide) hN) rfl (hR _ _ _ rfl) ?_
                        refine E_iload dX12_jugs_302 rfl ?_
                        refine E_ialdN dX12_jugs_304 rfl (Nat.lt_of_lt_of_le (by decide) hN) (by omega) ?_
                        refine E.top ((up2_k _ _ (fun z => c241 z.symm)).trans (o5 (c % 3) (by omega))) ?_
                        refine E_iload dX12_jugs_305 rfl ?_
                        refine E_iadd dX12_jugs_307 ?_
                        refine E.top (nI_add ((amS (jgW σ) ((jrS (mvS (jgW σ) (jgB σ)) (b0S σ) e).2.1 e)) (c % 3)) (min ((amS (jgW σ) ((jrS (mvS (jgW σ) (jgB σ)) (b0S σ) e).2.1 e)) (c / 3)) (jgB σ (c % 3) - (amS (jgW σ) ((jrS (mvS (jgW σ) (jgB σ)) (b0S σ) e).2.1 e)) (c % 3)))) ?_
                        refine E_iastN dX12_jugs_308 rfl (Nat.lt_of_lt_of_le (by decide) hN) (by omega) ?_
                        refine E.mask [true, true, true, true, true, true, true, false, false, false] ?_
                        exact H309 _ ⟨fun x hx => (up2_o _ 149 _ _ x hx).trans ((up2_o _ 149 _ _ x hx).trans (f5 x hx)), fun i hi => by
                          have hl := pwF_le (f := (amS (jgW σ) ((jrS (mvS (jgW σ) (jgB σ)) (b0S σ) e).2.1 e))) (B := jgB σ) (a := c / 3) (b := c % 3) vk.2 (by omega) (by omega)
                          have hs := pwF_sum (f := (amS (jgW σ) ((jrS (mvS (jgW σ) (jgB σ)) (b0S σ) e).2.1 e))) (B := jgB σ) (a := c / 3) (b := c % 3) (by omega) (by omega) c241
                          rw [amS_sum vk.1] at hs
                          have h2 := (am_pw (f := pwF (amS (jgW σ) ((jrS (mvS (jgW σ) (jgB σ)) (b0S σ) e).2.1 e)) (jgB σ) (c / 3) (c % 3)) (Nat.le_trans (hl 1 (by decide)) (hB20 1 (by decide))) hs).2 i hi
                          rw [show (mvS (jgW σ) (jgB σ) ((jrS (mvS (jgW σ) (jgB σ)) (b0S σ) e).2.1 e) c) = pwF (amS (jgW σ) ((jrS (mvS (jgW σ) (jgB σ)) (b0S σ) e).2.1 e)) (jgB σ) (c / 3) (c % 3) 0 * 21 + pwF (amS (jgW σ) ((jrS (mvS (jgW σ) (jgB σ)) (b0S σ) e).2.1 e)) (jgB σ) (c / 3) (c % 3) 1 from if_neg c241, h2]
                          exact up_pw o5 i hi⟩
                      · refine E_ic (nI 0) dX12_jugs_244 (by decide) ?_
                        refine E_goto (tgt := 273) dX12_jugs_245 (by decide) ?_
                        refine E_istore dX12_jugs_273 (Nat.le_of_ble_eq_true rfl) ?_
                        refine E_aload_n dX12_jugs_275 rfl ?_
                        refine E_getR dX12_jugs_276 f_X12_115 rfl (Nat.lt_of_lt_of_le (by decide) hN) rfl (hR _ _ _ rfl) ?_
                        refine E_iload dX12_jugs_279 rfl ?_
                        refine E_aload_n dX12_jugs_281 rfl ?_
                        refine E_getR dX12_jugs_282 f_X12_115 rfl (Nat.lt_of_lt_of_le (by decide) hN) rfl (hR _ _ _ rfl) ?_
                        refine E_iload dX12_jugs_285 rfl ?_
                        refine E_ialdN dX12_jugs_287 rfl (Nat.lt_of_lt_of_le (by decide) hN) (by omega) ?_
                        refine E.top (o5 (c / 3) (by omega)) ?_
                        refine E_iload dX12_jugs_288 rfl ?_
                        refine E_isub dX12_jugs_290 ?_
                        refine E.top (pk_sub (a := amS (jgW σ) ((jrS (mvS (jgW σ) (jgB σ)) (b0S σ) e).2.1 e) (c / 3)) (b := 0) (by omega)) ?_
                        refine E_iastN dX12_jugs_291 rfl (Nat.lt_of_lt_of_le (by decide) hN) (by omega) ?_
                        refine E_aload_n dX12_jugs_292 rfl ?_
                        refine E_getR dX12_jugs_293 f_X12_115 rfl (Nat.lt_of_lt_of_le (by decide) hN) rfl (hR _ _ _ rfl) ?_
                        refine E_iload dX12_jugs_296 rfl ?_
                        refine E_aload_n dX12_jugs_298 rfl ?_
                        refine E_getR dX12_jugs_299 f_X12_115 rfl (Nat.lt_of_lt_of_le (by decide) hN) rfl (hR _ _ _ rfl) ?_
                        refine E_iload dX12_jugs_302 rfl ?_
                        refine E_ialdN dX12_jugs_304 rfl (Nat.lt_of_lt_of_le (by decide) hN) (by omega) ?_
                        refine E.top ((show up2 I5 149 (c / 3) (nI ((amS (jgW σ) ((jrS (mvS (jgW σ) (jgB σ)) (b0S σ) e).2.1 e)) (c / 3) - 0)) 149 (c % 3) = nI ((amS (jgW σ) ((jrS (mvS (jgW σ) (jgB σ)) (b0S σ) e).2.1 e)) (c % 3) - 0) by rw [← c241]; exact up2_s _ _ _ _)) ?_
                        refine E_iload dX12_jugs_305 rfl ?_
                        refine E_iadd dX12_jugs_307 ?_
                        refine E.top (nI_add ((amS (jgW σ) ((jrS (mvS (jgW σ) (jgB σ)) (b0S σ) e).2.1 e)) (c % 3) - 0) 0) ?_
                        refine E_iastN dX12_jugs_308 rfl (Nat.lt_of_lt_of_le (by decide) hN) (by omega) ?_
                        refine E.mask [true, true, true, true, true, true, true, false, false, false] ?_
                        exact H309 _ ⟨fun x hx => (up2_o _ 149 _ _ x hx).trans ((up2_o _ 149 _ _ x hx).trans (f5 x hx)), fun i hi => by
                          rw [show (mvS (jgW σ) (jgB σ) ((jrS (mvS (jgW σ) (jgB σ)) (b0S σ) e).2.1 e) c) = ((jrS (mvS (jgW σ) (jgB σ)) (b0S σ) e).2.1 e) from if_pos c241]
                          exact up_id c241 o5 i hi⟩
                  have H204 : ∀ I4 : IM, (((∀ x, x ≠ 147 → x ≠ 148 → x ≠ 149 → x ≠ 150 → I4 x = (up2 I 114 7 (nI 0)) x) ∧ ∀ i, i < 3 → I4 148 i = nI (jgB σ i)) ∧ MJ (jgW σ) (jgB σ) (jrS (mvS (jgW σ) (jgB σ)) (b0S σ) e) I4) → E g mX12_jugs 900 0 0 204 [.ref 114, .int (nI m), .int (nI v), .int (nI ((jrS (mvS (jgW σ) (jgB σ)) (b0S σ) e).1)), .int (ftS (hitS (jgW σ) m) (jrS (mvS (jgW σ) (jgB σ)) (b0S σ) e) (e + 1)), .int (nI e), jk, jk, jk, jk] [] n I4 J R Q := by
                    intro I4 hv
                    refine E_ic (nI 0) dX12_jugs_204 (by decide) ?_
                    refine E_istore dX12_jugs_205 (Nat.le_of_ble_eq_true rfl) ?_
                    exact Lc 0 (by decide) I4 hv
                  refine E_aload_n dX12_jugs_164 rfl ?_
                  refine E_aload_n dX12_jugs_165 rfl ?_
                  refine E_getR dX12_jugs_166 f_X12_118 rfl (Nat.lt_of_lt_of_le (by decide) hN) rfl (hR _ _ _ rfl) ?_
                  refine E_iload dX12_jugs_169 rfl ?_
                  refine E_ialdN dX12_jugs_171 rfl (Nat.lt_of_lt_of_le (by decide) hN) (by omega) ?_
                  refine E.top (hv2.2.1.1 e hh) ?_
                  refine E_callV (As := [_]) (ci := 11) (kc' := 0) (ks' := 0) (kc := 0) (ks := 0) dX12_jugs_172 ok_X12_laysJugs w_X12_408 i_X12_laysJugs s_X12_laysJugs rfl (by decide) rfl (Nat.lt_of_lt_of_le (by decide) hN) rfl rfl rfl (Nat.le_of_ble_eq_true rfl) (Nat.le_of_ble_eq_true rfl) (Nat.le_refl _) (m_laysJugs (d := 899) hN hR hB20 (wj.1 e hh).1 (fun I3 f3 o3 => ?_))
                  refine E_iload dX12_jugs_175 rfl ?_
                  refine E_bp (-2) dX12_jugs_177 (by decide) ?_
                  refine E_icmp_ne (tgt := 204) dX12_jugs_179 (by decide) (fun c179 => ?_) (fun c179 => ?_)
                  · refine E.mask [true, true, true, true, true, true, false, false, false, false] ?_
                    have H204 := H204 I3 (⟨⟨fun x h1 h2 h3 h4 => (f3 x h3).trans (hv2.1.1 x h1 h2 h3 h4), fun i hi => (congrFun (f3 148 (by decide)) i).trans (hv2.1.2 i hi)⟩, fun i hi => (congrFun (f3 150 (by decide)) i).trans (hv2.2.1.1 i hi), fun s hs => (congrFun (f3 147 (by decide)) _).trans (hv2.2.1.2 s hs)⟩)
                    rw [show (ftS (hitS (jgW σ) m) (jrS (mvS (jgW σ) (jgB σ)) (b0S σ) e) (e + 1)) = (ftS (hitS (jgW σ) m) (jrS (mvS (jgW σ) (jgB σ)) (b0S σ) e) e) by first | exact if_neg c179 | exact (if_pos c179).trans ((if_neg h3).trans c179.symm)] at H204
                    exact H204
                  · refine E_aload_n dX12_jugs_182 rfl ?_
                    refine E_iload_n dX12_jugs_183 rfl ?_
                    refine E_callV (As := [_]) (ci := 11) (kc' := 0) (ks' := 0) (kc := 0) (ks := 0) dX12_jugs_184 ok_X12_isAnyFull w_X12_411 i_X12_isAnyFull s_X12_isAnyFull rfl (by decide) rfl (Nat.lt_of_lt_of_le (by decide) hN) rfl rfl rfl (Nat.le_of_ble_eq_true rfl) (Nat.le_of_ble_eq_true rfl) (Nat.le_refl _) (m_anyFull (d := 899) hN hR o3 (fun i hi => by have := vq.2 i hi; have := hB20 i hi; omega) (by omega) (fun h3 => ?_) (fun h3 => ?_))
                    · skip
                      refine E_zN_eq (a := 1) (tgt := 204) dX12_jugs_187 (by decide) (by decide) (fun c187 => absurd c187 (by omega)) (fun c187 => ?_)
                      refine E_aload_n dX12_jugs_190 rfl ?_
                      refine E_getR dX12_jugs_191 f_X12_109 rfl (Nat.lt_of_lt_of_le (by decide) hN) rfl (hR _ _ _ rfl) ?_
                      refine E_aload_n dX12_jugs_194 rfl ?_
                      refine E_getR dX12_jugs_195 f_X12_118 rfl (Nat.lt_of_lt_of_le (by decide) hN) rfl (hR _ _ _ rfl) ?_
                      refine E_iload dX12_jugs_198 rfl ?_
                      refine E_ialdN dX12_jugs_200 rfl (Nat.lt_of_lt_of_le (by decide) hN) (by omega) ?_
                      refine E.top ((congrFun (f3 150 (by decide)) e).trans (hv2.2.1.1 e hh)) ?_
                      refine E_ialdN dX12_jugs_201 rfl (Nat.lt_of_lt_of_le (by decide) hN) (kr_d hB20 (wj.1 e hh).1).2.2.2 ?_
                      refine E.top ((congrFun (f3 147 (by decide)) _).trans ((hv2.2.1.2 _ (wj.1 e hh).1).trans (dn_p (wj.1 e hh).2))) ?_
                      refine E_istore dX12_jugs_202 (Nat.le_of_ble_eq_true rfl) ?_
                      refine E.mask [true, true, true, true, true, true, false, false, false, false] ?_
                      have H204 := H204 I3 (⟨⟨fun x h1 h2 h3 h4 => (f3 x h3).trans (hv2.1.1 x h1 h2 h3 h4), fun i hi => (congrFun (f3 148 (by decide)) i).trans (hv2.1.2 i hi)⟩, fun i hi => (congrFun (f3 150 (by decide)) i).trans (hv2.2.1.1 i hi), fun s hs => (congrFun (f3 147 (by decide)) _).trans (hv2.2.1.2 s hs)⟩)
                      rw [show (ftS (hitS (jgW σ) m) (jrS (mvS (jgW σ) (jgB σ)) (b0S σ) e) (e + 1)) = nI (((jrS (mvS (jgW σ) (jgB σ)) (b0S σ) e).2.2 ((jrS (mvS (jgW σ) (jgB σ)) (b0S σ) e).2.1 e)) - 1) from (if_pos c179).trans (if_pos h3)] at H204
                      exact H204
                    · skip
                      refine E_zN_eq (a := 0) (tgt := 204) dX12_jugs_187 (by decide) (by decide) (fun c187 => ?_) (fun c187 => absurd c187 (by omega))
                      refine E.mask [true, true, true, true, true, true, false, false, false, false] ?_
                      have H204 := H204 I3 (⟨⟨fun x h1 h2 h3 h4 => (f3 x h3).trans (hv2.1.1 x h1 h2 h3 h4), fun i hi => (congrFun (f3 148 (by decide)) i).trans (hv2.1.2 i hi)⟩, fun i hi => (congrFun (f3 150 (by decide)) i).trans (hv2.2.1.1 i hi), fun s hs => (congrFun (f3 147 (by decide)) _).trans (hv2.2.1.2 s hs)⟩)
                      rw [show (ftS (hitS (jgW σ) m) (jrS (mvS (jgW σ) (jgB σ)) (b0S σ) e) (e + 1)) = (ftS (hitS (jgW σ) m) (jrS (mvS (jgW σ) (jgB σ)) (b0S σ) e) e) by first | exact if_neg c179 | exact (if_pos c179).trans ((if_neg h3).trans c179.symm)] at H204
                      exact H204
            have Lw : ∀ e, e ≤ 9261 → ∀ I3 : IM, ((∀ x, x ≠ 147 → I3 x = I2 x) ∧ ∀ y, y < e → I3 147 y = -1) → E g mX12_jugs 900 0 0 107 [.ref 114, .int (nI m), .int (nI v), .int (nI e), jk, jk, jk, jk, jk, jk] [] n I3 J R Q := by
              refine loopU 9261 (fun I3 hv3 => ?_) (fun e hew ihw I3 hv3 => ?_)
              · refine E_iload_n dX12_jugs_107 rfl ?_
                refine E_sp (nI 9261) dX12_jugs_108 (by decide) ?_
                refine E_cN_ge (a := 9261) (b := 9261) (tgt := 127) dX12_jugs_111 (by decide) (by decide) (by decide) (fun c111 => ?_) (fun c111 => absurd c111 (by omega))
                refine E_aload_n dX12_jugs_127 rfl ?_
                refine E_getR dX12_jugs_128 f_X12_118 rfl (Nat.lt_of_lt_of_le (by decide) hN) rfl (hR _ _ _ rfl) ?_
                refine E_ic (nI 0) dX12_jugs_131 (by decide) ?_
                refine E_aload_n dX12_jugs_132 rfl ?_
                refine E_callV (As := []) (ci := 11) (kc' := 0) (ks' := 0) (kc := 0) (ks := 0) dX12_jugs_133 ok_X12_jugState w_X12_405 i_X12_jugState s_X12_jugState rfl (by decide) rfl (Nat.lt_of_lt_of_le (by decide) hN) rfl rfl rfl (Nat.le_of_ble_eq_true rfl) (Nat.le_of_ble_eq_true rfl) (Nat.le_refl _) (m_jugState (d := 899) (f := amS (jgW σ) (jgF σ 0 * 21 + jgF σ 1)) hN hR (fun i hi => by rw [hv3.1 149 (by decide), v2 i hi]; exact (hv2.2 i hi).2.1) ?_)
                refine E_iastN dX12_jugs_136 rfl (Nat.lt_of_lt_of_le (by decide) hN) (by decide) ?_
                refine E_aload_n dX12_jugs_137 rfl ?_
                refine E_getR dX12_jugs_138 f_X12_109 rfl (Nat.lt_of_lt_of_le (by decide) hN) rfl (hR _ _ _ rfl) ?_
                refine E_aload_n dX12_jugs_141 rfl ?_
                refine E_getR dX12_jugs_142 f_X12_118 rfl (Nat.lt_of_lt_of_le (by decide) hN) rfl (hR _ _ _ rfl) ?_
                refine E_ic (nI 0) dX12_jugs_145 (by decide) ?_
                refine E_ialdN dX12_jugs_146 rfl (Nat.lt_of_lt_of_le (by decide) hN) (by decide) ?_
                refine E.top (up2_s _ _ _ _) ?_
                refine E_ic (nI 0) dX12_jugs_147 (by decide) ?_
                refine E_iastN dX12_jugs_148 rfl (Nat.lt_of_lt_of_le (by decide) hN) (kr_d hB20 v1).2.2.2 ?_
                refine E_ic (nI 1) dX12_jugs_149 (by decide) ?_
                refine E_istore_n dX12_jugs_150 (Nat.le_of_ble_eq_true rfl) ?_
                refine E_bp (-2) dX12_jugs_151 (by decide) ?_
                refine E_istore dX12_jugs_153 (Nat.le_of_ble_eq_true rfl) ?_
                refine E_ic (nI 0) dX12_jugs_155 (by decide) ?_
                refine E_istore dX12_jugs_156 (Nat.le_of_ble_eq_true rfl) ?_
                have Le := Le 0 (Nat.zero_le _) (up2 (up2 I3 150 0 (nI (kjS (jgW σ) (jgF σ 0 * 21 + jgF σ 1)))) 147 (kjS (jgW σ) (jgF σ 0 * 21 + jgF σ 1)) (nI 0)) ⟨⟨fun x h1 h2 h3 h4 => (up2_o _ 147 _ _ x h1).trans ((up2_o _ 150 _ _ x h4).trans ((hv3.1 x h1).trans (hv2.1 x h2 h3))), fun i hi => (congrFun ((up2_o _ 147 _ _ 148 (by decide)).trans ((up2_o _ 150 _ _ 148 (by decide)).trans (hv3.1 148 (by decide)))) i).trans (hv2.2 i hi).1⟩, ?_, Nat.zero_le _⟩
                · rw [show jrS (mvS (jgW σ) (jgB σ)) (b0S σ) 0 = b0S σ from rfl, v4] at Le
                  exact Le
                · rw [show jrS (mvS (jgW σ) (jgB σ)) (b0S σ) 0 = b0S σ from rfl, v4]
                  refine ⟨fun i hi => ?_, fun s hs => ?_⟩
                  · have : i = 0 := by have : i < 1 := hi; omega
                    subst this
                    exact (congrFun (up2_o _ 147 _ _ 150 (by decide)) 0).trans (up2_s _ _ _ _)
                  · show _ = dnI (up1 (fun _ => 0) (jgF σ 0 * 21 + jgF σ 1) 1 s)
                    by_cases e : s = jgF σ 0 * 21 + jgF σ 1
                    · rw [show up1 (fun _ => 0) (jgF σ 0 * 21 + jgF σ 1) 1 s = 1 from if_pos e, e]
                      exact up2_s _ _ _ _
                    · rw [show up1 (fun _ => 0) (jgF σ 0 * 21 + jgF σ 1) 1 s = 0 from if_neg e, up2_k _ _ (fun y => e (kr_i hB20 hs v1 y)), up2_o _ 150 _ _ 147 (by decide)]
                      exact hv3.2 _ (kr_d hB20 hs).2.2.2
              · refine E_iload_n dX12_jugs_107 rfl ?_
                refine E_sp (nI 9261) dX12_jugs_108 (by decide) ?_
                refine E_cN_ge (a := e) (b := 9261) (tgt := 127) dX12_jugs_111 (by omega) (by decide) (by decide) (fun c111 => absurd c111 (by omega)) (fun c111 => ?_)
                refine E_aload_n dX12_jugs_114 rfl ?_
                refine E_getR dX12_jugs_115 f_X12_109 rfl (Nat.lt_of_lt_of_le (by decide) hN) rfl (hR _ _ _ rfl) ?_
                refine E_iload_n dX12_jugs_118 rfl ?_
                refine E_ic (-1) dX12_jugs_119 (by decide) ?_
                refine E_iastN dX12_jugs_120 rfl (Nat.lt_of_lt_of_le (by decide) hN) (by omega) ?_
                refine E_incN dX12_jugs_121 rfl ?_
                refine E_goto (tgt := 107) dX12_jugs_124 (by decide) ?_
                refine ihw _ ⟨fun x hx => (up2_o I3 147 _ _ x hx).trans (hv3.1 x hx), fun y hy => ?_⟩
                rcases Nat.lt_succ_iff_lt_or_eq.mp hy with y1 | y1
                · rw [up2_k _ _ (by omega)]
                  exact hv3.2 y y1
                · subst y1
                  exact up2_s _ _ _ _
            refine E_iload_n dX12_jugs_37 rfl ?_
            refine E_ic (nI 3) dX12_jugs_38 (by decide) ?_
            refine E_cN_ge (a := 3) (b := 3) (tgt := 105) dX12_jugs_39 (by decide) (by decide) (by decide) (fun c39 => ?_) (fun c39 => absurd c39 (by omega))
            refine E_ic (nI 0) dX12_jugs_105 (by decide) ?_
            refine E_istore_n dX12_jugs_106 (Nat.le_of_ble_eq_true rfl) ?_
            exact Lw 0 (Nat.zero_le _) I2 ⟨fun _ _ => rfl, fun y hy => absurd hy (Nat.not_lt_zero y)⟩
          · have b81 : jgB σ j < 256 := hB.2.2.2.2.1 (2 * j) (by omega)
            have b82 : jgF σ j < 256 := hB.2.2.2.2.1 (2 * j + 1) (by omega)
            refine E_iload_n dX12_jugs_37 rfl ?_
            refine E_ic (nI 3) dX12_jugs_38 (by decide) ?_
            refine E_cN_ge (a := j) (b := 3) (tgt := 105) dX12_jugs_39 (by omega) (by decide) (by decide) (fun c39 => absurd c39 (by omega)) (fun c39 => ?_)
            refine E_aload_n dX12_jugs_42 rfl ?_
            refine E_getR dX12_jugs_43 f_X12_112 rfl (Nat.lt_of_lt_of_le (by decide) hN) rfl (hR _ _ _ rfl) ?_
            refine E_iload_n dX12_jugs_46 rfl ?_
            refine E_aload_n dX12_jugs_47 rfl ?_
            refine E_ic (nI 2) dX12_jugs_48 (by decide) ?_
            refine E_iload_n dX12_jugs_49 rfl ?_
            refine E_imul dX12_jugs_50 ?_
            refine E.top (pk_mul 2 j) ?_
            refine E_callV (As := [_]) (ci := 11) (kc' := 0) (ks' := 0) (kc := 0) (ks := 0) dX12_jugs_51 ok_X12_octet w_X12_387 i_X12_octet s_X12_octet rfl (by decide) rfl (Nat.lt_of_lt_of_le (by decide) hN) rfl rfl rfl (Nat.le_of_ble_eq_true rfl) (Nat.le_of_ble_eq_true rfl) (Nat.le_refl _) (m_octet (d := 899) (by rw [hv2.1 121 (by decide) (by decide)]; exact hT) hB hN hR (by omega) ?_)
            refine E_iastN dX12_jugs_54 rfl (Nat.lt_of_lt_of_le (by decide) hN) (by omega) ?_
            refine E_aload_n dX12_jugs_55 rfl ?_
            refine E_getR dX12_jugs_56 f_X12_115 rfl (Nat.lt_of_lt_of_le (by decide) hN) rfl (hR _ _ _ rfl) ?_
            refine E_iload_n dX12_jugs_59 rfl ?_
            refine E_aload_n dX12_jugs_60 rfl ?_
            refine E_ic (nI 2) dX12_jugs_61 (by decide) ?_
            refine E_iload_n dX12_jugs_62 rfl ?_
            refine E_imul dX12_jugs_63 ?_
            refine E.top (pk_mul 2 j) ?_
            refine E_ic (nI 1) dX12_jugs_64 (by decide) ?_
            refine E_iadd dX12_jugs_65 ?_
            refine E.top (nI_add (2 * j) 1) ?_
            refine E_callV (As := [_]) (ci := 11) (kc' := 0) (ks' := 0) (kc := 0) (ks := 0) dX12_jugs_66 ok_X12_octet w_X12_387 i_X12_octet s_X12_octet rfl (by decide) rfl (Nat.lt_of_lt_of_le (by decide) hN) rfl rfl rfl (Nat.le_of_ble_eq_true rfl) (Nat.le_of_ble_eq_true rfl) (Nat.le_refl _) (m_octet (d := 899) (by rw [up2_o _ 148 _ _ 121 (by decide), hv2.1 121 (by decide) (by decide)]; exact hT) hB hN hR (by omega) ?_)
            refine E_iastN dX12_jugs_69 rfl (Nat.lt_of_lt_of_le (by decide) hN) (by omega) ?_
            refine E_aload_n dX12_jugs_70 rfl ?_
            refine E_getR dX12_jugs_71 f_X12_112 rfl (Nat.lt_of_lt_of_le (by decide) hN) rfl (hR _ _ _ rfl) ?_
            refine E_iload_n dX12_jugs_74 rfl ?_
            refine E_ialdN dX12_jugs_75 rfl (Nat.lt_of_lt_of_le (by decide) hN) (by omega) ?_
            refine E.top ((congrFun (up2_o (up2 I2 148 j (nI (jgB σ j))) 149 _ _ 148 (by decide)) j).trans (up2_s _ _ _ _)) ?_
            refine E_bp (nI 20) dX12_jugs_76 (by decide) ?_
            refine E_cN_gt (a := jgB σ j) (b := 20) (tgt := 96) dX12_jugs_78 (by omega) (by decide) (by decide) (fun c78 => ?_) (fun c78 => ?_)
            · refine E_bp (-3) dX12_jugs_96 (by decide) ?_
              exact E_iret dX12_jugs_98 rfl (by
                      rw [gd_t (show bJ σ from fun z => by have := z j hj; omega)] at hQ
                      have f4 : ∀ x, x ≠ 148 → x ≠ 149 → (up2 (up2 I2 148 j (nI (jgB σ j))) 149 j (nI (jgF σ j))) x = (up2 I 114 7 (nI 0)) x := fun x h2 h3 => (up2_o _ 149 _ _ x h3).trans ((up2_o _ 148 _ _ x h2).trans (hv2.1 x h2 h3))
                      exact hQ _ J (MR.congr (u0_M hM) (f4 118 (by decide) (by decide)) (f4 119 (by decide) (by decide)) (f4 120 (by decide) (by decide)) (f4 115 (by decide) (by decide)) (f4 117 (by decide) (by decide)) (f4 114 (by decide) (by decide)) (f4 121 (by decide) (by decide)) (f4 140 (by decide) (by decide))) (fun a a1 => (f4 a (by omega) (by omega)).trans (up2_o I 114 7 _ a (by omega))) ((congrFun (f4 114 (by decide) (by decide)) 16).trans rfl) (fun a a1 a2 => (f4 a (by omega) (by omega)).trans (up2_o I 114 7 _ a (by omega))))
            · refine E_aload_n dX12_jugs_81 rfl ?_
              refine E_getR dX12_jugs_82 f_X12_115 rfl (Nat.lt_of_lt_of_le (by decide) hN) rfl (hR _ _ _ rfl) ?_
              refine E_iload_n dX12_jugs_85 rfl ?_
              refine E_ialdN dX12_jugs_86 rfl (Nat.lt_of_lt_of_le (by decide) hN) (by omega) ?_
              refine E.top (up2_s _ _ _ _) ?_
              refine E_aload_n dX12_jugs_87 rfl ?_
              refine E_getR dX12_jugs_88 f_X12_112 rfl (Nat.lt_of_lt_of_le (by decide) hN) rfl (hR _ _ _ rfl) ?_
              refine E_iload_n dX12_jugs_91 rfl ?_
              refine E_ialdN dX12_jugs_92 rfl (Nat.lt_of_lt_of_le (by decide) hN) (by omega) ?_
              refine E.top ((congrFun (up2_o (up2 I2 148 j (nI (jgB σ j))) 149 _ _ 148 (by decide)) j).trans (up2_s _ _ _ _)) ?_
              refine E_cN_le (a := jgF σ j) (b := jgB σ j) (tgt := 99) dX12_jugs_93 (by omega) (by omega) (by decide) (fun c93 => ?_) (fun c93 => ?_)
              · refine E_incN dX12_jugs_99 rfl ?_
                refine E_goto (tgt := 37) dX12_jugs_102 (by decide) ?_
                refine ihj _ ⟨fun x h2 h3 => (up2_o _ 149 _ _ x h3).trans ((up2_o _ 148 _ _ x h2).trans (hv2.1 x h2 h3)), fun i hi => ?_⟩
                rw [up2_o _ 149 _ _ 148 (by decide)]
                rcases Nat.lt_succ_iff_lt_or_eq.mp hi with z | z
                · rw [up2_k _ _ (show i ≠ j by omega), up2_k _ _ (show i ≠ j by omega), up2_o _ 148 _ _ 149 (by decide)]
                  exact hv2.2 i z
                · subst z
                  exact ⟨up2_s _ _ _ _, up2_s _ _ _ _, c78, c93⟩
              · refine E_bp (-3) dX12_jugs_96 (by decide) ?_
                exact E_iret dX12_jugs_98 rfl (by
                        rw [gd_t (show bJ σ from fun z => by have := z j hj; omega)] at hQ
                        have f4 : ∀ x, x ≠ 148 → x ≠ 149 → (up2 (up2 I2 148 j (nI (jgB σ j))) 149 j (nI (jgF σ j))) x = (up2 I 114 7 (nI 0)) x := fun x h2 h3 => (up2_o _ 149 _ _ x h3).trans ((up2_o _ 148 _ _ x h2).trans (hv2.1 x h2 h3))
                        exact hQ _ J (MR.congr (u0_M hM) (f4 118 (by decide) (by decide)) (f4 119 (by decide) (by decide)) (f4 120 (by decide) (by decide)) (f4 115 (by decide) (by decide)) (f4 117 (by decide) (by decide)) (f4 114 (by decide) (by decide)) (f4 121 (by decide) (by decide)) (f4 140 (by decide) (by decide))) (fun a a1 => (f4 a (by omega) (by omega)).trans (up2_o I 114 7 _ a (by omega))) ((congrFun (f4 114 (by decide) (by decide)) 16).trans rfl) (fun a a1 a2 => (f4 a (by omega) (by omega)).trans (up2_o I 114 7 _ a (by omega))))
        refine E_iload_n dX12_jugs_0 rfl ?_
        refine E_ic (nI 0) dX12_jugs_1 (by decide) ?_
        refine E_bp (nI 20) dX12_jugs_2 (by decide) ?_
        refine E_callS (As := [_, _, _]) (kc' := 0) (ks' := 0) (kc := 0) (ks := 0) dX12_jugs_4 ok_X12_in w_X12_124 st_X12_in rfl rfl rfl (Nat.le_of_ble_eq_true rfl) (Nat.le_of_ble_eq_true rfl) (Nat.le_refl _) (M_in (x := nI m) (by decide) (by decide) (fun _ _ _ _ => ?_) (fun z => ?_))
        · skip
          refine E_zN_eq (a := 1) (tgt := 28) dX12_jugs_7 (by decide) (by decide) (fun c7 => absurd c7 (by omega)) (fun c7 => ?_)
          refine E_iload_n dX12_jugs_10 rfl ?_
          refine E_ic (nI 0) dX12_jugs_11 (by decide) ?_
          refine E_ic (nI 1) dX12_jugs_12 (by decide) ?_
          refine E_callS (As := [_, _, _]) (kc' := 0) (ks' := 0) (kc := 0) (ks := 0) dX12_jugs_13 ok_X12_in w_X12_124 st_X12_in rfl rfl rfl (Nat.le_of_ble_eq_true rfl) (Nat.le_of_ble_eq_true rfl) (Nat.le_refl _) (M_in (x := nI v) (by decide) (by decide) (fun _ _ _ _ => ?_) (fun z => ?_))
          · skip
            refine E_zN_eq (a := 1) (tgt := 28) dX12_jugs_16 (by decide) (by decide) (fun c16 => absurd c16 (by omega)) (fun c16 => ?_)
            refine E_aload_n dX12_jugs_19 rfl ?_
            refine E_getI dX12_jugs_20 f_X12_128 rfl (Nat.lt_of_lt_of_le (by decide) hN) rfl ?_
            refine E.top (hM.2.2.2.1.1) ?_
            refine E_bp (nI 6) dX12_jugs_23 (by decide) ?_
            refine E_cN_ge (a := σ 9 0 0) (b := 6) (tgt := 30) dX12_jugs_25 (by omega) (by decide) (by decide) (fun c25 => ?_) (fun c25 => absurd c25 (by omega))
            refine E_aload_n dX12_jugs_30 rfl ?_
            refine E_ic (nI 0) dX12_jugs_31 (by decide) ?_
            refine E_putI dX12_jugs_32 f_X12_128 rfl (Nat.lt_of_lt_of_le (by decide) hN) rfl ?_
            refine E_ic (nI 0) dX12_jugs_35 (by decide) ?_
            refine E_istore_n dX12_jugs_36 (Nat.le_of_ble_eq_true rfl) ?_
            refine Lj 0 (Nat.zero_le _) _ ⟨fun _ _ _ => rfl, fun i hi => absurd hi (Nat.not_lt_zero i)⟩
          · skip
            exact absurd rfl (z _ (by omega) (by omega))
        · skip
          exact absurd rfl (z _ (by omega) (by omega))
      · have hq := hNO (fun z => h6 z.2.2)
        refine E_iload_n dX12_jugs_0 rfl ?_
        refine E_ic (nI 0) dX12_jugs_1 (by decide) ?_
        refine E_bp (nI 20) dX12_jugs_2 (by decide) ?_
        refine E_callS (As := [_, _, _]) (kc' := 0) (ks' := 0) (kc := 0) (ks := 0) dX12_jugs_4 ok_X12_in w_X12_124 st_X12_in rfl rfl rfl (Nat.le_of_ble_eq_true rfl) (Nat.le_of_ble_eq_true rfl) (Nat.le_refl _) (M_in (x := nI m) (by decide) (by decide) (fun _ _ _ _ => ?_) (fun z => ?_))
        · skip
          refine E_zN_eq (a := 1) (tgt := 28) dX12_jugs_7 (by decide) (by decide) (fun c7 => absurd c7 (by omega)) (fun c7 => ?_)
          refine E_iload_n dX12_jugs_10 rfl ?_
          refine E_ic (nI 0) dX12_jugs_11 (by decide) ?_
          refine E_ic (nI 1) dX12_jugs_12 (by decide) ?_
          refine E_callS (As := [_, _, _]) (kc' := 0) (ks' := 0) (kc := 0) (ks := 0) dX12_jugs_13 ok_X12_in w_X12_124 st_X12_in rfl rfl rfl (Nat.le_of_ble_eq_true rfl) (Nat.le_of_ble_eq_true rfl) (Nat.le_refl _) (M_in (x := nI v) (by decide) (by decide) (fun _ _ _ _ => ?_) (fun z => ?_))
          · skip
            refine E_zN_eq (a := 1) (tgt := 28) dX12_jugs_16 (by decide) (by decide) (fun c16 => absurd c16 (by omega)) (fun c16 => ?_)
            refine E_aload_n dX12_jugs_19 rfl ?_
            refine E_getI dX12_jugs_20 f_X12_128 rfl (Nat.lt_of_lt_of_le (by decide) hN) rfl ?_
            refine E.top (hM.2.2.2.1.1) ?_
            refine E_bp (nI 6) dX12_jugs_23 (by decide) ?_
            refine E_cN_ge (a := σ 9 0 0) (b := 6) (tgt := 30) dX12_jugs_25 (by omega) (by decide) (by decide) (fun c25 => absurd c25 (by omega)) (fun c25 => ?_)
            refine E_ic (-1) dX12_jugs_28 (by decide) ?_
            exact E_iret dX12_jugs_29 rfl (hq)
          · skip
            exact absurd rfl (z _ (by omega) (by omega))
        · skip
          exact absurd rfl (z _ (by omega) (by omega))
    · have hq := hNO (fun z => hw z.2.1)
      refine E_iload_n dX12_jugs_0 rfl ?_
      refine E_ic (nI 0) dX12_jugs_1 (by decide) ?_
      refine E_bp (nI 20) dX12_jugs_2 (by decide) ?_
      refine E_callS (As := [_, _, _]) (kc' := 0) (ks' := 0) (kc := 0) (ks := 0) dX12_jugs_4 ok_X12_in w_X12_124 st_X12_in rfl rfl rfl (Nat.le_of_ble_eq_true rfl) (Nat.le_of_ble_eq_true rfl) (Nat.le_refl _) (M_in (x := nI m) (by decide) (by decide) (fun _ _ _ _ => ?_) (fun z => ?_))
      · skip
        refine E_zN_eq (a := 1) (tgt := 28) dX12_jugs_7 (by decide) (by decide) (fun c7 => absurd c7 (by omega)) (fun c7 => ?_)
        refine E_iload_n dX12_jugs_10 rfl ?_
        refine E_ic (nI 0) dX12_jugs_11 (by decide) ?_
        refine E_ic (nI 1) dX12_jugs_12 (by decide) ?_
        refine E_callS (As := [_, _, _]) (kc' := 0) (ks' := 0) (kc := 0) (ks := 0) dX12_jugs_13 ok_X12_in w_X12_124 st_X12_in rfl rfl rfl (Nat.le_of_ble_eq_true rfl) (Nat.le_of_ble_eq_true rfl) (Nat.le_refl _) (M_in (by decide) (by decide) (fun m q1 q2 q3 => ?_) (fun z => ?_))
        · skip
          exact absurd ⟨m, q2, q3⟩ hw
        · skip
          refine E_zN_eq (a := 0) (tgt := 28) dX12_jugs_16 (by decide) (by decide) (fun c16 => ?_) (fun c16 => absurd c16 (by omega))
          refine E_ic (-1) dX12_jugs_28 (by decide) ?_
          exact E_iret dX12_jugs_29 rfl (hq)
      · skip
        exact absurd rfl (z _ (by omega) (by omega))
  · have hq := hNO (fun z => hx z.1)
    refine E_iload_n dX12_jugs_0 rfl ?_
    refine E_ic (nI 0) dX12_jugs_1 (by decide) ?_
    refine E_bp (nI 20) dX12_jugs_2 (by decide) ?_
    refine E_callS (As := [_, _, _]) (kc' := 0) (ks' := 0) (kc := 0) (ks := 0) dX12_jugs_4 ok_X12_in w_X12_124 st_X12_in rfl rfl rfl (Nat.le_of_ble_eq_true rfl) (Nat.le_of_ble_eq_true rfl) (Nat.le_refl _) (M_in (by decide) (by decide) (fun m q1 q2 q3 => ?_) (fun z => ?_))
    · skip
      exact absurd ⟨m, q2, q3⟩ hx
    · skip
      refine E_zN_eq (a := 0) (tgt := 28) dX12_jugs_7 (by decide) (by decide) (fun c7 => ?_) (fun c7 => absurd c7 (by omega))
      refine E_ic (-1) dX12_jugs_28 (by decide) ?_
      exact E_iret dX12_jugs_29 rfl (hq)
end PJugsM
