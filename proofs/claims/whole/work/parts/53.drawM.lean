/-! ===== draw, tried, the reference ===== -/
def MF2 (k : Nat) (I I' : IM) : Prop := (∀ x, x ≠ 114 → x ≠ 115 → x ≠ 133 → x ≠ 134 → I' x = I x) ∧ (∀ j, j ≠ 40 → j ≠ 41 → j ≠ 42 → I' 114 j = I 114 j) ∧ (∀ j, j < 72 → j % 12 ≠ k → I' 115 j = I 115 j)
theorem MF2.of {k : Nat} {I I' : IM} (h : MFr k 1 I I') : MF2 k I I' := ⟨h.1, fun j a b _ => h.2.1 j a b, h.2.2.1⟩
theorem MF2.refl (k : Nat) (I : IM) : MF2 k I I := ⟨fun _ _ _ _ _ => rfl, fun _ _ _ _ => rfl, fun _ _ _ => rfl⟩
theorem MF2.trans {k : Nat} {I I' I2 : IM} (h : MF2 k I I') (h2 : MF2 k I' I2) : MF2 k I I2 := ⟨fun x a b c d => (h2.1 x a b c d).trans (h.1 x a b c d), fun j a b c => (h2.2.1 j a b c).trans (h.2.1 j a b c), fun j a b => (h2.2.2 j a b).trans (h.2.2 j a b)⟩
theorem MF2.lot {k : Nat} (I : IM) (v : Int32) : MF2 k I (up2 I 115 74 v) := ⟨fun x _ h2 _ _ => up2_o I 115 74 v x h2, fun i _ _ _ => congrFun (up2_o I 115 74 v 114 (by decide)) i, fun i h1 h2 => up2_k I v (by omega)⟩
theorem MF2.fld {k j : Nat} (I : IM) (v : Int32) (hj : j = 40 ∨ j = 41 ∨ j = 42) : MF2 k I (up2 I 114 j v) := ⟨fun x h1 _ _ _ => up2_o I 114 j v x h1, fun i h1 h2 h3 => up2_k I v (by omega), fun i _ _ => congrFun (up2_o I 114 j v 115 (by decide)) i⟩
theorem MCr.keep2 {k LN : Nat} {Y S : FN} {q : LWD} {I I' : IM} (h : MCr k LN Y S q I) (f : MF2 k I I') : MCr k LN Y S q I' := ⟨(congrFun (f.1 118 (by decide) (by decide) (by decide) (by decide)) k).trans h.1, fun i hi => by rw [f.1 119 (by decide) (by decide) (by decide) (by decide), f.1 120 (by decide) (by decide) (by decide) (by decide)]; exact h.2.1 i hi, h.2.2.keep (f.2.1 16 (by decide) (by decide) (by decide)) (fun a a1 a2 => f.1 a (by omega) (by omega) (by omega) (by omega))⟩
theorem MDr.lot {k c0 : Nat} {Y D : FN} {I : IM} (hk : k < 12) (h : MDr k 1 c0 Y D I) (v : Int32) : MDr k 1 c0 Y D (up2 I 115 74 v) := by
  obtain ⟨⟨a0, a1, a2, a3, a4, a5⟩, b⟩ := h
  exact ⟨⟨(up2_k _ _ (by omega)).trans a0, (up2_k _ _ (by omega)).trans a1, (up2_k _ _ (by omega)).trans a2, (up2_k _ _ (by omega)).trans a3, (up2_k _ _ (by omega)).trans a4, (up2_k _ _ (by omega)).trans a5⟩, fun z => ⟨(up2_k _ _ (by decide)).trans (b z).1, (congrFun (up2_o _ 115 _ _ 114 (by decide)) 40).trans (b z).2.1, (up2_k _ _ (by decide)).trans (b z).2.2.1, (congrFun (up2_o _ 115 _ _ 114 (by decide)) 41).trans (b z).2.2.2⟩⟩
theorem MDr.brk {k c0 : Nat} {Y D : FN} {I : IM} (h : MDr k 1 c0 Y D I) (v : Int32) : MDr k 1 c0 Y D (up2 I 114 42 v) := by
  have e : up2 I 114 42 v 115 = I 115 := up2_o _ 114 _ _ 115 (by decide)
  unfold MDr at h ⊢
  rw [e]
  exact ⟨h.1, fun z => ⟨(h.2 z).1, (up2_k _ _ (by decide)).trans (h.2 z).2.1, (h.2 z).2.2.1, (up2_k _ _ (by decide)).trans (h.2 z).2.2.2⟩⟩
section PDrawM
variable {g : GL} {d n : Nat} {I : IM} {J : JM} {R : RM} {Q : PQ} {k LN c0 : Nat} {Y S D : FN} {q : LWD} {σ : ST}
set_option maxRecDepth 100000 in
set_option maxHeartbeats 2000000 in
theorem m_drawsL {m : Nat} {f : FN} (hN : 152 ≤ n) (hR : RS R) (hk : k < 12) (hq : LWF q) (hLN : LN ≤ 24) (hm : m ≤ 96) (hf : ∀ i, i < m → f i < 6) : ∀ (e i : Nat) (D : FN) (l : Nat) (b : Int32) (I : IM), i + e = m → MCr k LN Y S q I → okD LN D → MDr k 1 c0 Y D I → l ≤ 65535 → I 115 74 = nI l → I 114 42 = b → I 114 34 = nI m → (∀ j, j < m → I 135 j = nI (f j)) → (∀ I2 : IM, MF2 k I I2 → MDr k 1 c0 Y (rnS q k LN Y S f e i D l b).1 I2 → I2 115 74 = nI (rnS q k LN Y S f e i D l b).2.1 → I2 114 42 = (rnS q k LN Y S f e i D l b).2.2 → Q none n I2 J R) → E g mX12_draws (d + 6) 0 0 37 [.ref 114, .int (nI k), .int (nI i)] [] n I J R Q := by
  intro e
  induction e with
  | zero =>
    intro i D l b I hie hX hO hD hl2 hl hb hm34 hI hQ
    refine E_iload_n dX12_draws_37 rfl ?_
    refine E_aload_n dX12_draws_38 rfl ?_
    refine E_getI dX12_draws_39 f_X12_252 rfl (Nat.lt_of_lt_of_le (by decide) hN) rfl ?_
    refine E.top (hm34) ?_
    refine E_cN_ge (a := i) (b := m) (tgt := 135) dX12_draws_42 (by omega) (by omega) (by decide) (fun cw42 => ?_) (fun cw42 => absurd cw42 (by omega))
    exact E_ret dX12_draws_135 rfl (hQ I (MF2.refl k I) hD hl hb)
  | succ e ih =>
    intro i D l b I hie hX hO hD hl2 hl hb hm34 hI hQ
    have o5 := hO.2.2.2.2.2.1
    have oo5 := (ddS_ok (q := q) (k := k) (Y := Y) (S := S) (deed := f i) (i := i) (w := lotS l % 10) hO).2.2.2.2.2.1
    have ll : lotS l < 65536 := Nat.mod_lt _ (by decide)
    by_cases h5 : D 5 = 0
    · by_cases hn5 : ddS q k LN Y S (f i) i (lotS l % 10) D 5 = 0
      · skip
        refine E_iload_n dX12_draws_37 rfl ?_
        refine E_aload_n dX12_draws_38 rfl ?_
        refine E_getI dX12_draws_39 f_X12_252 rfl (Nat.lt_of_lt_of_le (by decide) hN) rfl ?_
        refine E.top (hm34) ?_
        refine E_cN_ge (a := i) (b := m) (tgt := 135) dX12_draws_42 (by omega) (by omega) (by decide) (fun cw42 => absurd cw42 (by omega)) (fun cw42 => ?_)
        refine E_aload_n dX12_draws_45 rfl ?_
        refine E_getR dX12_draws_46 f_X12_7 rfl (Nat.lt_of_lt_of_le (by decide) hN) rfl (hR _ _ _ rfl) ?_
        refine E_bp (nI 48) dX12_draws_49 (by decide) ?_
        refine E_iload_n dX12_draws_51 rfl ?_
        refine E_iadd dX12_draws_52 ?_
        refine E.top (nI_add 48 k) ?_
        refine E_ialdN dX12_draws_53 rfl (Nat.lt_of_lt_of_le (by decide) hN) (by omega) ?_
        refine E.top (hD.1.2.2.2.2.2) ?_
        refine E_zN_ne (a := D 5) (tgt := 135) dX12_draws_54 (by omega) (by decide) (fun cw54 => absurd cw54 (by omega)) (fun cw54 => ?_)
        refine E_aload_n dX12_draws_57 rfl ?_
        refine E_getR dX12_draws_58 f_X12_7 rfl (Nat.lt_of_lt_of_le (by decide) hN) rfl (hR _ _ _ rfl) ?_
        refine E_bp (nI 74) dX12_draws_61 (by decide) ?_
        refine E_sp (nI 25173) dX12_draws_63 (by decide) ?_
        refine E_aload_n dX12_draws_66 rfl ?_
        refine E_getR dX12_draws_67 f_X12_7 rfl (Nat.lt_of_lt_of_le (by decide) hN) rfl (hR _ _ _ rfl) ?_
        refine E_bp (nI 74) dX12_draws_70 (by decide) ?_
        refine E_ialdN dX12_draws_72 rfl (Nat.lt_of_lt_of_le (by decide) hN) (by decide) ?_
        refine E.top (hl) ?_
        refine E_imul dX12_draws_73 ?_
        refine E.top (pk_mul 25173 l) ?_
        refine E_sp (nI 13849) dX12_draws_74 (by decide) ?_
        refine E_iadd dX12_draws_77 ?_
        refine E.top (nI_add (25173 * l) 13849) ?_
        refine E_ldcw (nI 65536) dX12_draws_78 k_X12_331 ?_
        refine E_irem dX12_draws_81 (by decide) ?_
        refine E.top (pk_rem (a := (25173 * l) + 13849) (d := 65536) (by omega) (by decide) (by decide)) ?_
        refine E.top ((show nI ((25173 * l + 13849) % 65536) = nI (lotS l) from rfl)) ?_
        refine E_iastN dX12_draws_82 rfl (Nat.lt_of_lt_of_le (by decide) hN) (by decide) ?_
        refine E_aload_n dX12_draws_83 rfl ?_
        refine E_iload_n dX12_draws_84 rfl ?_
        refine E_iload_n dX12_draws_85 rfl ?_
        refine E_aload_n dX12_draws_86 rfl ?_
        refine E_getR dX12_draws_87 f_X12_7 rfl (Nat.lt_of_lt_of_le (by decide) hN) rfl (hR _ _ _ rfl) ?_
        refine E_bp (nI 74) dX12_draws_90 (by decide) ?_
        refine E_ialdN dX12_draws_92 rfl (Nat.lt_of_lt_of_le (by decide) hN) (by decide) ?_
        refine E.top (up2_s _ _ _ _) ?_
        refine E_bp (nI 10) dX12_draws_93 (by decide) ?_
        refine E_irem dX12_draws_95 (by decide) ?_
        refine E.top (pk_rem (a := lotS l) (d := 10) (by omega) (by decide) (by decide)) ?_
        refine E_callV (As := [_, _, _]) (ci := 11) (kc' := 0) (ks' := 0) (kc := 0) (ks := 0) dX12_draws_96 ok_X12_feels w_X12_332 i_X12_feels s_X12_feels rfl (by decide) rfl (Nat.lt_of_lt_of_le (by decide) hN) rfl rfl rfl (Nat.le_of_ble_eq_true rfl) (Nat.le_of_ble_eq_true rfl) (Nat.le_refl _) (m_feels1 (d := d + 4) (i := i) (w := lotS l % 10) hN hR hk hq hLN (hX.keep2 (MF2.lot (k := k) I (nI (lotS l)))) hO (hD.lot hk (nI (lotS l))) (fun I2 f2 a2 => ?_))
        refine E_aload_n dX12_draws_99 rfl ?_
        refine E_iload_n dX12_draws_100 rfl ?_
        refine E_aload_n dX12_draws_101 rfl ?_
        refine E_getR dX12_draws_102 f_X12_71 rfl (Nat.lt_of_lt_of_le (by decide) hN) rfl (hR _ _ _ rfl) ?_
        refine E_iload_n dX12_draws_105 rfl ?_
        refine E_ialdN dX12_draws_106 rfl (Nat.lt_of_lt_of_le (by decide) hN) (by omega) ?_
        refine E.top ((congrFun ((f2 135 (by decide)).trans (up2_o I 115 74 _ 135 (by decide))) i).trans (hI i (by omega))) ?_
        refine E_ic (nI 1) dX12_draws_107 (by decide) ?_
        refine E_callV (As := [_, _, _]) (ci := 11) (kc' := 0) (ks' := 0) (kc := 0) (ks := 0) dX12_draws_108 ok_X12_does w_X12_336 i_X12_does s_X12_does rfl (by decide) rfl (Nat.lt_of_lt_of_le (by decide) hN) rfl rfl rfl (Nat.le_of_ble_eq_true rfl) (Nat.le_of_ble_eq_true rfl) (Nat.le_refl _) (m_doesA1 (d := d) (dd := f i) (i := i) (w := lotS l % 10) (hf i (by omega)) hN hR hk hq hLN (hX.keep2 ((MF2.lot (k := k) I (nI (lotS l))).trans (MF2.of (MFr.row f2 (by decide))))) hO ((hD.lot hk (nI (lotS l))).row (f2 114 (by decide)) (f2 115 (by decide))) a2 (fun I3 f3 d3 => ?_))
        refine E_aload_n dX12_draws_111 rfl ?_
        refine E_getR dX12_draws_112 f_X12_7 rfl (Nat.lt_of_lt_of_le (by decide) hN) rfl (hR _ _ _ rfl) ?_
        refine E_bp (nI 48) dX12_draws_115 (by decide) ?_
        refine E_iload_n dX12_draws_117 rfl ?_
        refine E_iadd dX12_draws_118 ?_
        refine E.top (nI_add 48 k) ?_
        refine E_ialdN dX12_draws_119 rfl (Nat.lt_of_lt_of_le (by decide) hN) (by omega) ?_
        refine E.top (d3.1.2.2.2.2.2) ?_
        refine E_ic (nI 1) dX12_draws_120 (by decide) ?_
        refine E_cN_ne (a := (ddS q k LN Y S (f i) i (lotS l % 10) D) 5) (b := 1) (tgt := 129) dX12_draws_121 (by omega) (by decide) (by decide) (fun cw121 => ?_) (fun cw121 => absurd cw121 (by omega))
        refine E_incN dX12_draws_129 rfl ?_
        refine E_goto (tgt := 37) dX12_draws_132 (by decide) ?_
        rw [rnS_t h5, if_pos hn5] at hQ
        exact ih (i + 1) _ (lotS l) _ I3 (by omega) (hX.keep2 (((MF2.lot (k := k) I (nI (lotS l))).trans (MF2.of (MFr.row f2 (by decide)))).trans (MF2.of f3))) (ddS_ok hO) d3 (by omega) (f3.2.2.2.1.trans ((congrFun (f2 115 (by decide)) 74).trans (up2_s _ _ _ _))) ((f3.2.1 42 (by decide) (by decide)).trans ((congrFun ((f2 114 (by decide)).trans (up2_o I 115 74 _ 114 (by decide))) 42).trans hb)) (((((MF2.lot (k := k) I (nI (lotS l))).trans (MF2.of (MFr.row f2 (by decide)))).trans (MF2.of f3)).2.1 34 (by decide) (by decide) (by decide)).trans hm34) (fun j hj => (congrFun ((((MF2.lot (k := k) I (nI (lotS l))).trans (MF2.of (MFr.row f2 (by decide)))).trans (MF2.of f3)).1 135 (by decide) (by decide) (by decide) (by decide)) j).trans (hI j hj)) (fun I4 f4 a4 b4 c4 => hQ I4 ((((MF2.lot (k := k) I (nI (lotS l))).trans (MF2.of (MFr.row f2 (by decide)))).trans (MF2.of f3)).trans f4) a4 b4 c4)
      · skip
        refine E_iload_n dX12_draws_37 rfl ?_
        refine E_aload_n dX12_draws_38 rfl ?_
        refine E_getI dX12_draws_39 f_X12_252 rfl (Nat.lt_of_lt_of_le (by decide) hN) rfl ?_
        refine E.top (hm34) ?_
        refine E_cN_ge (a := i) (b := m) (tgt := 135) dX12_draws_42 (by omega) (by omega) (by decide) (fun cw42 => absurd cw42 (by omega)) (fun cw42 => ?_)
        refine E_aload_n dX12_draws_45 rfl ?_
        refine E_getR dX12_draws_46 f_X12_7 rfl (Nat.lt_of_lt_of_le (by decide) hN) rfl (hR _ _ _ rfl) ?_
        refine E_bp (nI 48) dX12_draws_49 (by decide) ?_
        refine E_iload_n dX12_draws_51 rfl ?_
        refine E_iadd dX12_draws_52 ?_
        refine E.top (nI_add 48 k) ?_
        refine E_ialdN dX12_draws_53 rfl (Nat.lt_of_lt_of_le (by decide) hN) (by omega) ?_
        refine E.top (hD.1.2.2.2.2.2) ?_
        refine E_zN_ne (a := D 5) (tgt := 135) dX12_draws_54 (by omega) (by decide) (fun cw54 => absurd cw54 (by omega)) (fun cw54 => ?_)
        refine E_aload_n dX12_draws_57 rfl ?_
        refine E_getR dX12_draws_58 f_X12_7 rfl (Nat.lt_of_lt_of_le (by decide) hN) rfl (hR _ _ _ rfl) ?_
        refine E_bp (nI 74) dX12_draws_61 (by decide) ?_
        refine E_sp (nI 25173) dX12_draws_63 (by decide) ?_
        refine E_aload_n dX12_draws_66 rfl ?_
        refine E_getR dX12_draws_67 f_X12_7 rfl (Nat.lt_of_lt_of_le (by decide) hN) rfl (hR _ _ _ rfl) ?_
        refine E_bp (nI 74) dX12_draws_70 (by decide) ?_
        refine E_ialdN dX12_draws_72 rfl (Nat.lt_of_lt_of_le (by decide) hN) (by decide) ?_
        refine E.top (hl) ?_
        refine E_imul dX12_draws_73 ?_
        refine E.top (pk_mul 25173 l) ?_
        refine E_sp (nI 13849) dX12_draws_74 (by decide) ?_
        refine E_iadd dX12_draws_77 ?_
        refine E.top (nI_add (25173 * l) 13849) ?_
        refine E_ldcw (nI 65536) dX12_draws_78 k_X12_331 ?_
        refine E_irem dX12_draws_81 (by decide) ?_
        refine E.top (pk_rem (a := (25173 * l) + 13849) (d := 65536) (by omega) (by decide) (by decide)) ?_
        refine E.top ((show nI ((25173 * l + 13849) % 65536) = nI (lotS l) from rfl)) ?_
        refine E_iastN dX12_draws_82 rfl (Nat.lt_of_lt_of_le (by decide) hN) (by decide) ?_
        refine E_aload_n dX12_draws_83 rfl ?_
        refine E_iload_n dX12_draws_84 rfl ?_
        refine E_iload_n dX12_draws_85 rfl ?_
        refine E_aload_n dX12_draws_86 rfl ?_
        refine E_getR dX12_draws_87 f_X12_7 rfl (Nat.lt_of_lt_of_le (by decide) hN) rfl (hR _ _ _ rfl) ?_
        refine E_bp (nI 74) dX12_draws_90 (by decide) ?_
        refine E_ialdN dX12_draws_92 rfl (Nat.lt_of_lt_of_le (by decide) hN) (by decide) ?_
        refine E.top (up2_s _ _ _ _) ?_
        refine E_bp (nI 10) dX12_draws_93 (by decide) ?_
        refine E_irem dX12_draws_95 (by decide) ?_
        refine E.top (pk_rem (a := lotS l) (d := 10) (by omega) (by decide) (by decide)) ?_
        refine E_callV (As := [_, _, _]) (ci := 11) (kc' := 0) (ks' := 0) (kc := 0) (ks := 0) dX12_draws_96 ok_X12_feels w_X12_332 i_X12_feels s_X12_feels rfl (by decide) rfl (Nat.lt_of_lt_of_le (by decide) hN) rfl rfl rfl (Nat.le_of_ble_eq_true rfl) (Nat.le_of_ble_eq_true rfl) (Nat.le_refl _) (m_feels1 (d := d + 4) (i := i) (w := lotS l % 10) hN hR hk hq hLN (hX.keep2 (MF2.lot (k := k) I (nI (lotS l)))) hO (hD.lot hk (nI (lotS l))) (fun I2 f2 a2 => ?_))
        refine E_aload_n dX12_draws_99 rfl ?_
        refine E_iload_n dX12_draws_100 rfl ?_
        refine E_aload_n dX12_draws_101 rfl ?_
        refine E_getR dX12_draws_102 f_X12_71 rfl (Nat.lt_of_lt_of_le (by decide) hN) rfl (hR _ _ _ rfl) ?_
        refine E_iload_n dX12_draws_105 rfl ?_
        refine E_ialdN dX12_draws_106 rfl (Nat.lt_of_lt_of_le (by decide) hN) (by omega) ?_
        refine E.top ((congrFun ((f2 135 (by decide)).trans (up2_o I 115 74 _ 135 (by decide))) i).trans (hI i (by omega))) ?_
        refine E_ic (nI 1) dX12_draws_107 (by decide) ?_
        refine E_callV (As := [_, _, _]) (ci := 11) (kc' := 0) (ks' := 0) (kc := 0) (ks := 0) dX12_draws_108 ok_X12_does w_X12_336 i_X12_does s_X12_does rfl (by decide) rfl (Nat.lt_of_lt_of_le (by decide) hN) rfl rfl rfl (Nat.le_of_ble_eq_true rfl) (Nat.le_of_ble_eq_true rfl) (Nat.le_refl _) (m_doesA1 (d := d) (dd := f i) (i := i) (w := lotS l % 10) (hf i (by omega)) hN hR hk hq hLN (hX.keep2 ((MF2.lot (k := k) I (nI (lotS l))).trans (MF2.of (MFr.row f2 (by decide))))) hO ((hD.lot hk (nI (lotS l))).row (f2 114 (by decide)) (f2 115 (by decide))) a2 (fun I3 f3 d3 => ?_))
        refine E_aload_n dX12_draws_111 rfl ?_
        refine E_getR dX12_draws_112 f_X12_7 rfl (Nat.lt_of_lt_of_le (by decide) hN) rfl (hR _ _ _ rfl) ?_
        refine E_bp (nI 48) dX12_draws_115 (by decide) ?_
        refine E_iload_n dX12_draws_117 rfl ?_
        refine E_iadd dX12_draws_118 ?_
        refine E.top (nI_add 48 k) ?_
        refine E_ialdN dX12_draws_119 rfl (Nat.lt_of_lt_of_le (by decide) hN) (by omega) ?_
        refine E.top (d3.1.2.2.2.2.2) ?_
        refine E_ic (nI 1) dX12_draws_120 (by decide) ?_
        refine E_cN_ne (a := (ddS q k LN Y S (f i) i (lotS l % 10) D) 5) (b := 1) (tgt := 129) dX12_draws_121 (by omega) (by decide) (by decide) (fun cw121 => absurd cw121 (by omega)) (fun cw121 => ?_)
        refine E_aload_n dX12_draws_124 rfl ?_
        refine E_iload_n dX12_draws_125 rfl ?_
        refine E_putI dX12_draws_126 f_X12_328 rfl (Nat.lt_of_lt_of_le (by decide) hN) rfl ?_
        refine E_incN dX12_draws_129 rfl ?_
        refine E_goto (tgt := 37) dX12_draws_132 (by decide) ?_
        rw [rnS_t h5, if_neg hn5] at hQ
        exact ih (i + 1) _ (lotS l) _ (up2 I3 114 42 (nI i)) (by omega) (hX.keep2 ((((MF2.lot (k := k) I (nI (lotS l))).trans (MF2.of (MFr.row f2 (by decide)))).trans (MF2.of f3)).trans (MF2.fld I3 (nI i) (by decide)))) (ddS_ok hO) (d3.brk (nI i)) (by omega) ((congrFun (up2_o _ 114 _ _ 115 (by decide)) 74).trans (f3.2.2.2.1.trans ((congrFun (f2 115 (by decide)) 74).trans (up2_s _ _ _ _)))) (up2_s _ _ _ _) ((((((MF2.lot (k := k) I (nI (lotS l))).trans (MF2.of (MFr.row f2 (by decide)))).trans (MF2.of f3)).trans (MF2.fld I3 (nI i) (by decide))).2.1 34 (by decide) (by decide) (by decide)).trans hm34) (fun j hj => (congrFun (((((MF2.lot (k := k) I (nI (lotS l))).trans (MF2.of (MFr.row f2 (by decide)))).trans (MF2.of f3)).trans (MF2.fld I3 (nI i) (by decide))).1 135 (by decide) (by decide) (by decide) (by decide)) j).trans (hI j hj)) (fun I4 f4 a4 b4 c4 => hQ I4 (((((MF2.lot (k := k) I (nI (lotS l))).trans (MF2.of (MFr.row f2 (by decide)))).trans (MF2.of f3)).trans (MF2.fld I3 (nI i) (by decide))).trans f4) a4 b4 c4)
    · skip
      refine E_iload_n dX12_draws_37 rfl ?_
      refine E_aload_n dX12_draws_38 rfl ?_
      refine E_getI dX12_draws_39 f_X12_252 rfl (Nat.lt_of_lt_of_le (by decide) hN) rfl ?_
      refine E.top (hm34) ?_
      refine E_cN_ge (a := i) (b := m) (tgt := 135) dX12_draws_42 (by omega) (by omega) (by decide) (fun cw42 => absurd cw42 (by omega)) (fun cw42 => ?_)
      refine E_aload_n dX12_draws_45 rfl ?_
      refine E_getR dX12_draws_46 f_X12_7 rfl (Nat.lt_of_lt_of_le (by decide) hN) rfl (hR _ _ _ rfl) ?_
      refine E_bp (nI 48) dX12_draws_49 (by decide) ?_
      refine E_iload_n dX12_draws_51 rfl ?_
      refine E_iadd dX12_draws_52 ?_
      refine E.top (nI_add 48 k) ?_
      refine E_ialdN dX12_draws_53 rfl (Nat.lt_of_lt_of_le (by decide) hN) (by omega) ?_
      refine E.top (hD.1.2.2.2.2.2) ?_
      refine E_zN_ne (a := D 5) (tgt := 135) dX12_draws_54 (by omega) (by decide) (fun cw54 => ?_) (fun cw54 => absurd cw54 (by omega))
      exact E_ret dX12_draws_135 rfl (by rw [rnS_f h5] at hQ; exact hQ I (MF2.refl k I) hD hl hb)
set_option maxRecDepth 100000 in
set_option maxHeartbeats 2000000 in
theorem m_draws {m sc l : Nat} {f s : FN} (hN : 152 ≤ n) (hR : RS R) (hk : k < 12) (hq : LWF q) (hLN : LN ≤ 24) (hm : m ≤ 96) (hf : ∀ i, i < m → f i < 6) (hX : MCr k LN Y S q I) (hO : okD LN (bgD s sc)) (hrow : I 115 k = nI (s 0) ∧ I 115 (12 + k) = nI (s 1) ∧ I 115 (24 + k) = nI (s 2) ∧ I 115 (60 + k) = nI (s 3) ∧ I 115 (36 + k) = nI (s 4) ∧ I 115 (48 + k) = nI (s 5)) (h72 : I 115 72 = nI sc) (h73 : I 115 73 = nI c0) (hc0 : c0 ≤ 9999) (hl2 : l ≤ 65535) (hl : I 115 74 = nI l) (hm34 : I 114 34 = nI m) (hI : ∀ j, j < m → I 135 j = nI (f j)) (hQ : ∀ I2 : IM, MF2 k I I2 → MDr k 1 c0 Y (rnS q k LN Y S f m 0 (bgD s sc) l (if s 5 = 0 then -2 else -3)).1 I2 → I2 115 74 = nI (rnS q k LN Y S f m 0 (bgD s sc) l (if s 5 = 0 then -2 else -3)).2.1 → I2 114 42 = (rnS q k LN Y S f m 0 (bgD s sc) l (if s 5 = 0 then -2 else -3)).2.2 → Q none n I2 J R) : E g mX12_draws (d + 6) 0 0 0 (ent 3 [.ref 114, .int (nI k)]) [] n I J R Q := by
  have s5 : s 5 ≤ 1 := hO.2.2.2.2.2.1
  have key : ∀ v : Int32, v = (if s 5 = 0 then -2 else -3) → E g mX12_draws (d + 6) 0 0 37 [.ref 114, .int (nI k), .int (nI 0)] [] n (up2 (up2 (up2 I 114 40 (nI 0)) 114 41 (-2)) 114 42 v) J R Q := fun v hv2 => by
    have e5 : (up2 (up2 (up2 I 114 40 (nI 0)) 114 41 (-2)) 114 42 v) 115 = I 115 := (up2_o _ 114 _ _ 115 (by decide)).trans ((up2_o _ 114 _ _ 115 (by decide)).trans (up2_o _ 114 _ _ 115 (by decide)))
    have F0 : MF2 k I (up2 (up2 (up2 I 114 40 (nI 0)) 114 41 (-2)) 114 42 v) := (MF2.fld I _ (by decide)).trans ((MF2.fld _ _ (by decide)).trans (MF2.fld _ _ (by decide)))
    have D0 : MDr k 1 c0 Y (bgD s sc) (up2 (up2 (up2 I 114 40 (nI 0)) 114 41 (-2)) 114 42 v) := ⟨by rw [e5]; exact hrow, fun _ => ⟨by rw [e5]; exact h72, rfl, by rw [e5, h73]; exact congrArg nI (show c0 = min 9999 (c0 + 0) by omega), rfl⟩⟩
    refine m_drawsL (d := d) hN hR hk hq hLN hm hf m 0 (bgD s sc) l (if s 5 = 0 then -2 else -3) _ (Nat.zero_add m) (hX.keep2 F0) hO D0 hl2 ((congrFun e5 74).trans hl) hv2 ((F0.2.1 34 (by decide) (by decide) (by decide)).trans hm34) (fun j hj => (congrFun (F0.1 135 (by decide) (by decide) (by decide) (by decide)) j).trans (hI j hj)) (fun I2 f2 a2 b2 c2 => hQ I2 (F0.trans f2) a2 b2 c2)
  by_cases h5 : s 5 = 0
  · skip
    refine E_aload_n dX12_draws_0 rfl ?_
    refine E_ic (nI 0) dX12_draws_1 (by decide) ?_
    refine E_putI dX12_draws_2 f_X12_295 rfl (Nat.lt_of_lt_of_le (by decide) hN) rfl ?_
    refine E_aload_n dX12_draws_5 rfl ?_
    refine E_bp (-2) dX12_draws_6 (by decide) ?_
    refine E_putI dX12_draws_8 f_X12_289 rfl (Nat.lt_of_lt_of_le (by decide) hN) rfl ?_
    refine E_aload_n dX12_draws_11 rfl ?_
    refine E_aload_n dX12_draws_12 rfl ?_
    refine E_getR dX12_draws_13 f_X12_7 rfl (Nat.lt_of_lt_of_le (by decide) hN) rfl (hR _ _ _ rfl) ?_
    refine E_bp (nI 48) dX12_draws_16 (by decide) ?_
    refine E_iload_n dX12_draws_18 rfl ?_
    refine E_iadd dX12_draws_19 ?_
    refine E.top (nI_add 48 k) ?_
    refine E_ialdN dX12_draws_20 rfl (Nat.lt_of_lt_of_le (by decide) hN) (by omega) ?_
    refine E.top ((congrFun ((up2_o _ 114 _ _ 115 (by decide)).trans (up2_o I 114 _ _ 115 (by decide))) _).trans hrow.2.2.2.2.2) ?_
    refine E_ic (nI 1) dX12_draws_21 (by decide) ?_
    refine E_cN_ne (a := s 5) (b := 1) (tgt := 30) dX12_draws_22 (by omega) (by decide) (by decide) (fun cw22 => ?_) (fun cw22 => absurd cw22 (by omega))
    refine E_bp (-2) dX12_draws_30 (by decide) ?_
    refine E_putI dX12_draws_32 f_X12_328 rfl (Nat.lt_of_lt_of_le (by decide) hN) rfl ?_
    refine E_ic (nI 0) dX12_draws_35 (by decide) ?_
    refine E_istore_n dX12_draws_36 (Nat.le_of_ble_eq_true rfl) ?_
    exact key _ (if_pos h5).symm
  · skip
    refine E_aload_n dX12_draws_0 rfl ?_
    refine E_ic (nI 0) dX12_draws_1 (by decide) ?_
    refine E_putI dX12_draws_2 f_X12_295 rfl (Nat.lt_of_lt_of_le (by decide) hN) rfl ?_
    refine E_aload_n dX12_draws_5 rfl ?_
    refine E_bp (-2) dX12_draws_6 (by decide) ?_
    refine E_putI dX12_draws_8 f_X12_289 rfl (Nat.lt_of_lt_of_le (by decide) hN) rfl ?_
    refine E_aload_n dX12_draws_11 rfl ?_
    refine E_aload_n dX12_draws_12 rfl ?_
    refine E_getR dX12_draws_13 f_X12_7 rfl (Nat.lt_of_lt_of_le (by decide) hN) rfl (hR _ _ _ rfl) ?_
    refine E_bp (nI 48) dX12_draws_16 (by decide) ?_
    refine E_iload_n dX12_draws_18 rfl ?_
    refine E_iadd dX12_draws_19 ?_
    refine E.top (nI_add 48 k) ?_
    refine E_ialdN dX12_draws_20 rfl (Nat.lt_of_lt_of_le (by decide) hN) (by omega) ?_
    refine E.top ((congrFun ((up2_o _ 114 _ _ 115 (by decide)).trans (up2_o I 114 _ _ 115 (by decide))) _).trans hrow.2.2.2.2.2) ?_
    refine E_ic (nI 1) dX12_draws_21 (by decide) ?_
    refine E_cN_ne (a := s 5) (b := 1) (tgt := 30) dX12_draws_22 (by omega) (by decide) (by decide) (fun cw22 => absurd cw22 (by omega)) (fun cw22 => ?_)
    refine E_bp (-3) dX12_draws_25 (by decide) ?_
    refine E_goto (tgt := 32) dX12_draws_27 (by decide) ?_
    refine E_putI dX12_draws_32 f_X12_328 rfl (Nat.lt_of_lt_of_le (by decide) hN) rfl ?_
    refine E_ic (nI 0) dX12_draws_35 (by decide) ?_
    refine E_istore_n dX12_draws_36 (Nat.le_of_ble_eq_true rfl) ?_
    exact key _ (if_neg h5).symm
set_option maxRecDepth 100000 in
set_option maxHeartbeats 2000000 in
theorem sm_draw (x w : Int32) : SMQ mX12_draw [.int x, .int w] (r_draw x w) (u_draw x w) := by
  intro g n I J R σ q Q hB hM hq hl hN hR hQ
  have b9 : σ 9 0 0 ≤ 260 := hB.2.2.2.2.2.1
  unfold r_draw u_draw at hQ
  have hNO : ¬ gDr σ x w → Q (some (.int (-1))) n I J R := fun hno => by
    rw [gd_f hno] at hQ
    rw [gd_f hno] at hQ
    exact hQ I J hM (fun _ _ => rfl) rfl (fun _ _ _ => rfl)
  by_cases hx : tk σ x
  · obtain ⟨k, hk, rfl, h0⟩ := tk_ex hx
    by_cases hw : ∃ m, 1 ≤ m ∧ m ≤ 60 ∧ w = nI m
    · obtain ⟨m, m1, m2, rfl⟩ := hw
      by_cases hm9 : m ≤ σ 9 0 0
      · have hg : gDr σ (nI k) (nI m) := ⟨hx, tp_of m1 m2 hm9⟩
        rw [gd_t hg, gd_t hg, nI_clamp (n := m) (by omega), nI_clamp (n := k) (by omega)] at hQ
        have hc := tp_okc hB hm9
        refine E_aload_n dX12_draw_0 rfl ?_
        refine E_iload_n dX12_draw_1 rfl ?_
        refine E_callV (As := [_]) (ci := 11) (kc' := 0) (ks' := 0) (kc := 0) (ks := 0) dX12_draw_2 ok_X12_isTold w_X12_340 i_X12_isTold s_X12_isTold rfl (by decide) rfl (Nat.lt_of_lt_of_le (by decide) hN) rfl rfl rfl (Nat.le_of_ble_eq_true rfl) (Nat.le_of_ble_eq_true rfl) (Nat.le_refl _) (M_isTold (d := 898) hB hM hN hR (fun j hj e hj0 => ?_) (fun z => ?_))
        · skip
          refine E_zN_eq (a := 1) (tgt := 26) dX12_draw_5 (by decide) (by decide) (fun cw5 => absurd cw5 (by omega)) (fun cw5 => ?_)
          refine E_iload_n dX12_draw_8 rfl ?_
          refine E_ic (nI 1) dX12_draw_9 (by decide) ?_
          refine E_bp (nI 60) dX12_draw_10 (by decide) ?_
          refine E_callS (As := [_, _, _]) (kc' := 0) (ks' := 0) (kc := 0) (ks := 0) dX12_draw_12 ok_X12_in w_X12_124 st_X12_in rfl rfl rfl (Nat.le_of_ble_eq_true rfl) (Nat.le_of_ble_eq_true rfl) (Nat.le_refl _) (M_in (x := nI m) (by decide) (by decide) (fun _ _ _ _ => ?_) (fun z => ?_))
          · skip
            refine E_zN_eq (a := 1) (tgt := 26) dX12_draw_15 (by decide) (by decide) (fun cw15 => absurd cw15 (by omega)) (fun cw15 => ?_)
            refine E_iload_n dX12_draw_18 rfl ?_
            refine E_aload_n dX12_draw_19 rfl ?_
            refine E_getI dX12_draw_20 f_X12_128 rfl (Nat.lt_of_lt_of_le (by decide) hN) rfl ?_
            refine E.top (hM.2.2.2.1.1) ?_
            refine E_cN_le (a := m) (b := σ 9 0 0) (tgt := 28) dX12_draw_23 (by omega) (by omega) (by decide) (fun cw23 => ?_) (fun cw23 => absurd cw23 (by omega))
            refine E_aload_n dX12_draw_28 rfl ?_
            refine E_iload_n dX12_draw_29 rfl ?_
            refine E_ic (nI 0) dX12_draw_30 (by decide) ?_
            refine E_callV (As := [_, _]) (ci := 11) (kc' := 0) (ks' := 0) (kc := 0) (ks := 0) dX12_draw_31 ok_X12_readsRow w_X12_276 i_X12_readsRow s_X12_readsRow rfl (by decide) rfl (Nat.lt_of_lt_of_le (by decide) hN) rfl rfl rfl (Nat.le_of_ble_eq_true rfl) (Nat.le_of_ble_eq_true rfl) (Nat.le_refl _) (m_readsRow0 (d := 895) hN hR hc m1 (by omega) (fun j hj => hM.2.2.2.2.1 j (by omega)) ?_)
            cases hr : rdS 0 96 m (ccS (tpS σ) m) with
            | inl z =>
              have hQ : ∀ (I' : IM) (J' : JM), MR (u0 σ) I' → (∀ a, a < 114 → I' a = I a) → I' 114 16 = I 114 16 → (∀ a, 128 ≤ a → a ≤ 132 → I' a = I a) → Q (some (.int (z))) n I' J' R := by rw [hr] at hQ; exact hQ
              intro I4 f4 e4
              refine E_zN_ne (a := 0) (tgt := 42) dX12_draw_34 (by decide) (by decide) (fun cw34 => absurd cw34 (by omega)) (fun cw34 => ?_)
              refine E_aload_n dX12_draw_37 rfl ?_
              refine E_getI dX12_draw_38 f_X12_146 rfl (Nat.lt_of_lt_of_le (by decide) hN) rfl ?_
              refine E.top (e4) ?_
              exact E_iret dX12_draw_41 rfl (hQ I4 J ⟨fun i hi => by rw [f4.1 118 (by decide) (by decide) (by decide) (by decide) (by decide), f4.1 119 (by decide) (by decide) (by decide) (by decide) (by decide), f4.1 120 (by decide) (by decide) (by decide) (by decide) (by decide)]; exact hM.1 i hi, by rw [f4.1 115 (by decide) (by decide) (by decide) (by decide) (by decide)]; exact hM.2.1, fun z => by rw [f4.1 117 (by decide) (by decide) (by decide) (by decide) (by decide)]; exact hM.2.2.1 z, ⟨f4.2.2, (f4.2.1 58 (by unfold fkR; omega)).trans hM.2.2.2.1.2⟩, fun j hj => absurd hj (Nat.not_lt_zero j), fun j => by rw [f4.1 140 (by decide) (by decide) (by decide) (by decide) (by decide)]; exact hM.2.2.2.2.2 j⟩ (fun a a1 => f4.1 a (by omega) (by omega) (by omega) (by omega) (by omega)) (f4.2.1 16 (by unfold fkR; omega)) (fun a a1 a2 => f4.1 a (by omega) (by omega) (by omega) (by omega) (by omega)))
            | inr r =>
              have hQ : ∀ (I' : IM) (J' : JM), MR (uD k (rnQ q σ k r).1 (rnQ q σ k r).2.1 σ) I' → (∀ a, a < 114 → I' a = I a) → I' 114 16 = I 114 16 → (∀ a, 128 ≤ a → a ≤ 132 → I' a = I a) → Q (some (.int (nI ((rnQ q σ k r).1 7)))) n I' J' R := by rw [hr] at hQ; exact hQ
              obtain ⟨⟨a1, a2, a3, a4, a5⟩, _⟩ := rd_ok hc hr
              intro I4 f4 n4 i4
              have e15 : I4 115 = I 115 := f4.1 115 (by decide) (by decide) (by decide) (by decide) (by decide)
              have hX4 : MCr k (σ 0 k 0) (σ 1 k) (σ 2 k) q I4 := ⟨(congrFun (f4.1 118 (by decide) (by decide) (by decide) (by decide) (by decide)) k).trans (hM.1 k hk).1, fun i hi => by rw [f4.1 119 (by decide) (by decide) (by decide) (by decide) (by decide), f4.1 120 (by decide) (by decide) (by decide) (by decide) (by decide)]; exact (hM.1 k hk).2 i hi, hl.keep (f4.2.1 16 (by unfold fkR; omega)) (fun a a1 a2 => f4.1 a (by omega) (by omega) (by omega) (by omega) (by omega))⟩
              have c9 : σ 4 1 0 ≤ 9999 := hB.2.1.2.1
              have w4 := hM.2.1.1 k hk
              have row4 : I4 115 k = nI (σ 3 k 0) ∧ I4 115 (12 + k) = nI (σ 3 k 1) ∧ I4 115 (24 + k) = nI (σ 3 k 2) ∧ I4 115 (60 + k) = nI (σ 3 k 3) ∧ I4 115 (36 + k) = nI (σ 3 k 4) ∧ I4 115 (48 + k) = nI (σ 3 k 5) := by rw [e15]; exact ⟨w4.1, w4.2.1, w4.2.2.1, w4.2.2.2.2.2, w4.2.2.2.1, w4.2.2.2.2.1⟩
              refine E_zN_ne (a := 1) (tgt := 42) dX12_draw_34 (by decide) (by decide) (fun cw34 => ?_) (fun cw34 => absurd cw34 (by omega))
              refine E_aload_n dX12_draw_42 rfl ?_
              refine E_iload_n dX12_draw_43 rfl ?_
              refine E_callV (As := [_]) (ci := 11) (kc' := 0) (ks' := 0) (kc := 0) (ks := 0) dX12_draw_44 ok_X12_draws w_X12_343 i_X12_draws s_X12_draws rfl (by decide) rfl (Nat.lt_of_lt_of_le (by decide) hN) rfl rfl rfl (Nat.le_of_ble_eq_true rfl) (Nat.le_of_ble_eq_true rfl) (Nat.le_refl _) (m_draws (d := 893) (k := k) (c0 := σ 4 1 0) (sc := σ 4 0 0) (l := σ 4 2 0) (f := r.2.2) (s := σ 3 k) hN hR hk hq (hB.1 k hk).1 a4 (fun i hi => a5 i hi) hX4 (bgD_ok hB hk) row4 (by rw [e15]; exact hM.2.1.2.1) (by rw [e15]; exact hM.2.1.2.2.1) c9 hB.2.1.2.2 (by rw [e15]; exact hM.2.1.2.2.2) n4 i4 (fun I6 f6 d6 l6 b6 => ?_))
              revert hQ d6 l6 b6
              show _ → _ → _ → _ → E g mX12_draw _ _ _ _ _ _ _ _ _ _ _
              rw [show rnS q k (σ 0 k 0) (σ 1 k) (σ 2 k) r.2.2 r.2.1 0 (bgD (σ 3 k) (σ 4 0 0)) (σ 4 2 0) (if σ 3 k 5 = 0 then -2 else -3) = rnQ q σ k r from rfl]
              generalize rnQ q σ k r = o
              intro hQ d6 l6 b6
              refine E_aload_n dX12_draw_47 rfl ?_
              refine E_getI dX12_draw_48 f_X12_295 rfl (Nat.lt_of_lt_of_le (by decide) hN) rfl ?_
              refine E.top ((d6.2 rfl).2.1) ?_
              refine E_iret dX12_draw_51 rfl ?_
              have far : ∀ x, x ≠ 114 → x ≠ 115 → x ≠ 133 → x ≠ 134 → x ≠ 135 → x ≠ 136 → x ≠ 137 → x ≠ 138 → I6 x = I x := fun x c1 c2 c3 c4 c5 c6 c7 c8 => (f6.1 x c1 c2 c3 c4).trans (f4.1 x c1 c5 c6 c7 c8)
              have f14 : ∀ j, j ≠ 40 → j ≠ 41 → j ≠ 42 → fkR j → I6 114 j = I 114 j := fun j c1 c2 c3 c4 => (f6.2.1 j c1 c2 c3).trans (f4.2.1 j c4)
              refine hQ I6 J ⟨fun i hi => ?_, ⟨fun i hi => ?_, (d6.2 rfl).1, (d6.2 rfl).2.2.1, l6⟩, fun z => ?_, ⟨?_, ?_⟩, fun j hj => absurd hj (Nat.not_lt_zero j), fun j => ?_⟩ (fun a a1 => far a (by omega) (by omega) (by omega) (by omega) (by omega) (by omega) (by omega) (by omega)) (f14 16 (by decide) (by decide) (by decide) (by unfold fkR; omega)) (fun a a1 a2 => far a (by omega) (by omega) (by omega) (by omega) (by omega) (by omega) (by omega) (by omega))
              · rw [far 118 (by decide) (by decide) (by decide) (by decide) (by decide) (by decide) (by decide) (by decide), far 119 (by decide) (by decide) (by decide) (by decide) (by decide) (by decide) (by decide) (by decide), far 120 (by decide) (by decide) (by decide) (by decide) (by decide) (by decide) (by decide) (by decide)]
                exact hM.1 i hi
              · by_cases e : i = k
                · subst e
                  have e3 : ∀ j, uD i o.1 o.2.1 σ 3 i j = o.1 j := fun j => if_pos rfl
                  rw [e3, e3, e3, e3, e3, e3]
                  exact ⟨d6.1.1, d6.1.2.1, d6.1.2.2.1, d6.1.2.2.2.2.1, d6.1.2.2.2.2.2, d6.1.2.2.2.1⟩
                · have e3 : ∀ j, uD k o.1 o.2.1 σ 3 i j = σ 3 i j := fun j => if_neg e
                  rw [e3, e3, e3, e3, e3, e3, f6.2.2 i (by omega) (by omega), f6.2.2 (12 + i) (by omega) (by omega), f6.2.2 (24 + i) (by omega) (by omega), f6.2.2 (36 + i) (by omega) (by omega), f6.2.2 (48 + i) (by omega) (by omega), f6.2.2 (60 + i) (by omega) (by omega), e15]
                  exact hM.2.1.1 i hi
              · rw [far 117 (by decide) (by decide) (by decide) (by decide) (by decide) (by decide) (by decide) (by decide)]
                exact hM.2.2.1 z
              · exact (f6.2.1 7 (by decide) (by decide) (by decide)).trans f4.2.2
              · exact (f14 58 (by decide) (by decide) (by decide) (by unfold fkR; omega)).trans hM.2.2.2.1.2
              · rw [far 140 (by decide) (by decide) (by decide) (by decide) (by decide) (by decide) (by decide) (by decide)]
                exact hM.2.2.2.2.2 j
          · skip
            exact absurd rfl (z _ (by omega) (by omega))
        · skip
          exact absurd (tk_of hk h0) z
      · have hq2 := hNO (fun z => by obtain ⟨_, m2, q1, q2, q3, q4⟩ := z; have := (nI_eq (by omega) (by omega)).mp q4; omega)
        refine E_aload_n dX12_draw_0 rfl ?_
        refine E_iload_n dX12_draw_1 rfl ?_
        refine E_callV (As := [_]) (ci := 11) (kc' := 0) (ks' := 0) (kc := 0) (ks := 0) dX12_draw_2 ok_X12_isTold w_X12_340 i_X12_isTold s_X12_isTold rfl (by decide) rfl (Nat.lt_of_lt_of_le (by decide) hN) rfl rfl rfl (Nat.le_of_ble_eq_true rfl) (Nat.le_of_ble_eq_true rfl) (Nat.le_refl _) (M_isTold (d := 898) hB hM hN hR (fun j hj e hj0 => ?_) (fun z => ?_))
        · skip
          refine E_zN_eq (a := 1) (tgt := 26) dX12_draw_5 (by decide) (by decide) (fun cw5 => absurd cw5 (by omega)) (fun cw5 => ?_)
          refine E_iload_n dX12_draw_8 rfl ?_
          refine E_ic (nI 1) dX12_draw_9 (by decide) ?_
          refine E_bp (nI 60) dX12_draw_10 (by decide) ?_
          refine E_callS (As := [_, _, _]) (kc' := 0) (ks' := 0) (kc := 0) (ks := 0) dX12_draw_12 ok_X12_in w_X12_124 st_X12_in rfl rfl rfl (Nat.le_of_ble_eq_true rfl) (Nat.le_of_ble_eq_true rfl) (Nat.le_refl _) (M_in (x := nI m) (by decide) (by decide) (fun _ _ _ _ => ?_) (fun z => ?_))
          · skip
            refine E_zN_eq (a := 1) (tgt := 26) dX12_draw_15 (by decide) (by decide) (fun cw15 => absurd cw15 (by omega)) (fun cw15 => ?_)
            refine E_iload_n dX12_draw_18 rfl ?_
            refine E_aload_n dX12_draw_19 rfl ?_
            refine E_getI dX12_draw_20 f_X12_128 rfl (Nat.lt_of_lt_of_le (by decide) hN) rfl ?_
            refine E.top (hM.2.2.2.1.1) ?_
            refine E_cN_le (a := m) (b := σ 9 0 0) (tgt := 28) dX12_draw_23 (by omega) (by omega) (by decide) (fun cw23 => absurd cw23 (by omega)) (fun cw23 => ?_)
            refine E_ic (-1) dX12_draw_26 (by decide) ?_
            exact E_iret dX12_draw_27 rfl (hq2)
          · skip
            exact absurd rfl (z _ (by omega) (by omega))
        · skip
          exact absurd (tk_of hk h0) z
    · have hq2 := hNO (fun z => by obtain ⟨_, m2, q1, q2, q3, q4⟩ := z; exact hw ⟨m2, q1, q2, q4⟩)
      refine E_aload_n dX12_draw_0 rfl ?_
      refine E_iload_n dX12_draw_1 rfl ?_
      refine E_callV (As := [_]) (ci := 11) (kc' := 0) (ks' := 0) (kc := 0) (ks := 0) dX12_draw_2 ok_X12_isTold w_X12_340 i_X12_isTold s_X12_isTold rfl (by decide) rfl (Nat.lt_of_lt_of_le (by decide) hN) rfl rfl rfl (Nat.le_of_ble_eq_true rfl) (Nat.le_of_ble_eq_true rfl) (Nat.le_refl _) (M_isTold (d := 898) hB hM hN hR (fun j hj e hj0 => ?_) (fun z => ?_))
      · skip
        refine E_zN_eq (a := 1) (tgt := 26) dX12_draw_5 (by decide) (by decide) (fun cw5 => absurd cw5 (by omega)) (fun cw5 => ?_)
        refine E_iload_n dX12_draw_8 rfl ?_
        refine E_ic (nI 1) dX12_draw_9 (by decide) ?_
        refine E_bp (nI 60) dX12_draw_10 (by decide) ?_
        refine E_callS (As := [_, _, _]) (kc' := 0) (ks' := 0) (kc := 0) (ks := 0) dX12_draw_12 ok_X12_in w_X12_124 st_X12_in rfl rfl rfl (Nat.le_of_ble_eq_true rfl) (Nat.le_of_ble_eq_true rfl) (Nat.le_refl _) (M_in (by decide) (by decide) (fun m q1 q2 q3 => ?_) (fun z => ?_))
        · skip
          exact absurd ⟨m, q1, q2, q3⟩ hw
        · skip
          refine E_zN_eq (a := 0) (tgt := 26) dX12_draw_15 (by decide) (by decide) (fun cw15 => ?_) (fun cw15 => absurd cw15 (by omega))
          refine E_ic (-1) dX12_draw_26 (by decide) ?_
          exact E_iret dX12_draw_27 rfl (hq2)
      · skip
        exact absurd (tk_of hk h0) z
  · have hq2 := hNO (fun z => hx z.1)
    refine E_aload_n dX12_draw_0 rfl ?_
    refine E_iload_n dX12_draw_1 rfl ?_
    refine E_callV (As := [_]) (ci := 11) (kc' := 0) (ks' := 0) (kc := 0) (ks := 0) dX12_draw_2 ok_X12_isTold w_X12_340 i_X12_isTold s_X12_isTold rfl (by decide) rfl (Nat.lt_of_lt_of_le (by decide) hN) rfl rfl rfl (Nat.le_of_ble_eq_true rfl) (Nat.le_of_ble_eq_true rfl) (Nat.le_refl _) (M_isTold (d := 898) hB hM hN hR (fun j hj e hj0 => ?_) (fun z => ?_))
    · skip
      subst e
      exact absurd (tk_of hj hj0) hx
    · skip
      refine E_zN_eq (a := 0) (tgt := 26) dX12_draw_5 (by decide) (by decide) (fun cw5 => ?_) (fun cw5 => absurd cw5 (by omega))
      refine E_ic (-1) dX12_draw_26 (by decide) ?_
      exact E_iret dX12_draw_27 rfl (hq2)
end PDrawM
