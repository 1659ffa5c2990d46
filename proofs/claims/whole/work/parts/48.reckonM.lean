/-! ===== how a law is reckoned: the reference, and what a law says ===== -/
section PReckonM
variable {g : GL} {d n : Nat} {I : IM} {J : JM} {R : RM} {Q : PQ}
set_option maxRecDepth 100000 in
set_option maxHeartbeats 2000000 in
theorem m_reckon2 {x y : Int32} (hQ : Q (some (.int (rkn 2 x y))) n I J R) : E g mX12_reckon d 0 0 0 (ent 3 [.int (nI 2), .int x, .int y]) [] n I J R Q := by
  refine E_iload_n dX12_reckon_0 rfl ?_
  refine E_tin (tgt := 44) dX12_reckon_1 (by decide) (by decide) rfl (by decide) ?_
  refine E_iload_n dX12_reckon_44 rfl ?_
  refine E_iload_n dX12_reckon_45 rfl ?_
  refine E_iadd dX12_reckon_46 ?_
  exact E_iret dX12_reckon_47 rfl (hQ)
set_option maxRecDepth 100000 in
set_option maxHeartbeats 2000000 in
theorem m_reckon3 {x y : Int32} (hQ : Q (some (.int (rkn 3 x y))) n I J R) : E g mX12_reckon d 0 0 0 (ent 3 [.int (nI 3), .int x, .int y]) [] n I J R Q := by
  refine E_iload_n dX12_reckon_0 rfl ?_
  refine E_tin (tgt := 48) dX12_reckon_1 (by decide) (by decide) rfl (by decide) ?_
  refine E_iload_n dX12_reckon_48 rfl ?_
  refine E_iload_n dX12_reckon_49 rfl ?_
  refine E_isub dX12_reckon_50 ?_
  exact E_iret dX12_reckon_51 rfl (hQ)
set_option maxRecDepth 100000 in
set_option maxHeartbeats 2000000 in
theorem m_reckon4 {x y : Int32} (hQ : Q (some (.int (rkn 4 x y))) n I J R) : E g mX12_reckon d 0 0 0 (ent 3 [.int (nI 4), .int x, .int y]) [] n I J R Q := by
  refine E_iload_n dX12_reckon_0 rfl ?_
  refine E_tin (tgt := 52) dX12_reckon_1 (by decide) (by decide) rfl (by decide) ?_
  refine E_iload_n dX12_reckon_52 rfl ?_
  refine E_iload_n dX12_reckon_53 rfl ?_
  refine E_imul dX12_reckon_54 ?_
  exact E_iret dX12_reckon_55 rfl (hQ)
set_option maxRecDepth 100000 in
set_option maxHeartbeats 2000000 in
theorem m_reckon5 {x y : Int32} (hy : ¬ y = 0) (hQ : Q (some (.int (rkn 5 x y))) n I J R) : E g mX12_reckon d 0 0 0 (ent 3 [.int (nI 5), .int x, .int y]) [] n I J R Q := by
  refine E_iload_n dX12_reckon_0 rfl ?_
  refine E_tin (tgt := 56) dX12_reckon_1 (by decide) (by decide) rfl (by decide) ?_
  refine E_iload_n dX12_reckon_56 rfl ?_
  refine E_iload_n dX12_reckon_57 rfl ?_
  refine E_idiv dX12_reckon_58 hy ?_
  exact E_iret dX12_reckon_59 rfl (hQ)
set_option maxRecDepth 100000 in
set_option maxHeartbeats 2000000 in
theorem m_reckon6 {x y : Int32} (hy : ¬ y = 0) (hQ : Q (some (.int (rkn 6 x y))) n I J R) : E g mX12_reckon d 0 0 0 (ent 3 [.int (nI 6), .int x, .int y]) [] n I J R Q := by
  refine E_iload_n dX12_reckon_0 rfl ?_
  refine E_tin (tgt := 60) dX12_reckon_1 (by decide) (by decide) rfl (by decide) ?_
  refine E_iload_n dX12_reckon_60 rfl ?_
  refine E_iload_n dX12_reckon_61 rfl ?_
  refine E_irem dX12_reckon_62 hy ?_
  exact E_iret dX12_reckon_63 rfl (hQ)
set_option maxRecDepth 100000 in
set_option maxHeartbeats 2000000 in
theorem m_reckon7 {x y : Int32} (hQ : Q (some (.int (rkn 7 x y))) n I J R) : E g mX12_reckon d 0 0 0 (ent 3 [.int (nI 7), .int x, .int y]) [] n I J R Q := by
  refine E_iload_n dX12_reckon_0 rfl ?_
  refine E_tin (tgt := 64) dX12_reckon_1 (by decide) (by decide) rfl (by decide) ?_
  refine E_iload_n dX12_reckon_64 rfl ?_
  refine E_iload_n dX12_reckon_65 rfl ?_
  refine E_icmp_ge (tgt := 73) dX12_reckon_66 (by decide) (fun cw66 => ?_) (fun cw66 => ?_)
  · refine E_ic (nI 0) dX12_reckon_73 (by decide) ?_
    exact E_iret dX12_reckon_74 rfl (by first | (rw [show rkn 7 x y = 1 from if_pos (Int32.not_le.mp cw66)] at hQ; exact hQ) | (rw [show rkn 7 x y = 0 from if_neg (Int32.not_lt.mpr cw66)] at hQ; exact hQ))
  · refine E_ic (nI 1) dX12_reckon_69 (by decide) ?_
    refine E_goto (tgt := 74) dX12_reckon_70 (by decide) ?_
    exact E_iret dX12_reckon_74 rfl (by first | (rw [show rkn 7 x y = 1 from if_pos (Int32.not_le.mp cw66)] at hQ; exact hQ) | (rw [show rkn 7 x y = 0 from if_neg (Int32.not_lt.mpr cw66)] at hQ; exact hQ))
set_option maxRecDepth 100000 in
set_option maxHeartbeats 2000000 in
theorem m_reckon8 {x y : Int32} (hQ : Q (some (.int (rkn 8 x y))) n I J R) : E g mX12_reckon d 0 0 0 (ent 3 [.int (nI 8), .int x, .int y]) [] n I J R Q := by
  refine E_iload_n dX12_reckon_0 rfl ?_
  refine E_tin (tgt := 75) dX12_reckon_1 (by decide) (by decide) rfl (by decide) ?_
  refine E_iload_n dX12_reckon_75 rfl ?_
  refine E_iload_n dX12_reckon_76 rfl ?_
  refine E_icmp_le (tgt := 84) dX12_reckon_77 (by decide) (fun cw77 => ?_) (fun cw77 => ?_)
  · refine E_ic (nI 0) dX12_reckon_84 (by decide) ?_
    exact E_iret dX12_reckon_85 rfl (by first | (rw [show rkn 8 x y = 1 from if_pos (Int32.not_le.mp cw77)] at hQ; exact hQ) | (rw [show rkn 8 x y = 0 from if_neg (Int32.not_lt.mpr cw77)] at hQ; exact hQ))
  · refine E_ic (nI 1) dX12_reckon_80 (by decide) ?_
    refine E_goto (tgt := 85) dX12_reckon_81 (by decide) ?_
    exact E_iret dX12_reckon_85 rfl (by first | (rw [show rkn 8 x y = 1 from if_pos (Int32.not_le.mp cw77)] at hQ; exact hQ) | (rw [show rkn 8 x y = 0 from if_neg (Int32.not_lt.mpr cw77)] at hQ; exact hQ))
set_option maxRecDepth 100000 in
set_option maxHeartbeats 2000000 in
theorem m_reckon9 {x y : Int32} (hQ : Q (some (.int (rkn 9 x y))) n I J R) : E g mX12_reckon d 0 0 0 (ent 3 [.int (nI 9), .int x, .int y]) [] n I J R Q := by
  refine E_iload_n dX12_reckon_0 rfl ?_
  refine E_tout (tgt := 86) dX12_reckon_1 (Or.inr (by decide)) (by decide) ?_
  refine E_iload_n dX12_reckon_86 rfl ?_
  refine E_iload_n dX12_reckon_87 rfl ?_
  refine E_icmp_ne (tgt := 95) dX12_reckon_88 (by decide) (fun cw88 => ?_) (fun cw88 => ?_)
  · refine E_ic (nI 0) dX12_reckon_95 (by decide) ?_
    exact E_iret dX12_reckon_96 rfl (by first | (rw [show rkn 9 x y = 1 from if_pos cw88] at hQ; exact hQ) | (rw [show rkn 9 x y = 0 from if_neg cw88] at hQ; exact hQ))
  · refine E_ic (nI 1) dX12_reckon_91 (by decide) ?_
    refine E_goto (tgt := 96) dX12_reckon_92 (by decide) ?_
    exact E_iret dX12_reckon_96 rfl (by first | (rw [show rkn 9 x y = 1 from if_pos cw88] at hQ; exact hQ) | (rw [show rkn 9 x y = 0 from if_neg cw88] at hQ; exact hQ))
set_option maxRecDepth 100000 in
set_option maxHeartbeats 2000000 in
theorem m_rkL {code : CDE} {fa : Nat → Int32} {to fr : Nat} {v : Int32} (hN : 152 ≤ n) (hR : RS R) (hto : to ≤ 240) (hcd : CDok code to) : ∀ (e pc : Nat) (st : List Int32) (I : IM), evL code fa to e pc st = some v → (∀ i, i < to → I 128 i = nI (1048576 * (code i).1 + (code i).2)) → (∀ j, j < 9 → I 134 j = fa j) → SKv 133 I st → pc ≤ 240 → st.length ≤ 32 → (∀ I2 : IM, (∀ x, x ≠ 133 → I2 x = I x) → Q (some (.int v)) n I2 J R) → E g mX12_reckonsTo (d + 1) 0 0 16 [.ref 114, .int (nI fr), .int (nI to), .int (nI st.length), .int (nI 0), .int (nI pc), jk, jk] [] n I J R Q := by
  intro e
  induction e with
  | zero =>
    intro pc st I h hcode hfa hsk hpc hlen hQ
    obtain ⟨h1, rfl⟩ := ev_end0 h
    refine E_iload dX12_reckonsTo_16 rfl ?_
    refine E_iload_n dX12_reckonsTo_18 rfl ?_
    refine E_cN_ge (a := pc) (b := to) (tgt := 233) dX12_reckonsTo_19 (by omega) (by omega) (by decide) (fun cw19 => ?_) (fun cw19 => absurd cw19 (by omega))
    refine E_aload_n dX12_reckonsTo_233 rfl ?_
    refine E_getR dX12_reckonsTo_234 f_X12_65 rfl (Nat.lt_of_lt_of_le (by decide) hN) rfl (hR _ _ _ rfl) ?_
    refine E_ic (nI 0) dX12_reckonsTo_237 (by decide) ?_
    refine E_ialdN dX12_reckonsTo_238 rfl (Nat.lt_of_lt_of_le (by decide) hN) (by decide) ?_
    refine E.top (hsk.1) ?_
    exact E_iret dX12_reckonsTo_239 rfl (hQ I (fun _ _ => rfl))
  | succ e ih =>
    intro pc st I h hcode hfa hsk hpc hlen hQ
    by_cases cp : to ≤ pc
    · have h1 := ev_end cp h
      subst h1
      refine E_iload dX12_reckonsTo_16 rfl ?_
      refine E_iload_n dX12_reckonsTo_18 rfl ?_
      refine E_cN_ge (a := pc) (b := to) (tgt := 233) dX12_reckonsTo_19 (by omega) (by omega) (by decide) (fun cw19 => ?_) (fun cw19 => absurd cw19 (by omega))
      refine E_aload_n dX12_reckonsTo_233 rfl ?_
      refine E_getR dX12_reckonsTo_234 f_X12_65 rfl (Nat.lt_of_lt_of_le (by decide) hN) rfl (hR _ _ _ rfl) ?_
      refine E_ic (nI 0) dX12_reckonsTo_237 (by decide) ?_
      refine E_ialdN dX12_reckonsTo_238 rfl (Nat.lt_of_lt_of_le (by decide) hN) (by decide) ?_
      refine E.top (hsk.1) ?_
      exact E_iret dX12_reckonsTo_239 rfl (hQ I (fun _ _ => rfl))
    · obtain ⟨hop, hv2⟩ := hcd pc (by omega)
      have hcs : (code pc).1 = 0 ∨ (code pc).1 = 1 ∨ (code pc).1 = 2 ∨ (code pc).1 = 3 ∨ (code pc).1 = 4 ∨ (code pc).1 = 5 ∨ (code pc).1 = 6 ∨ (code pc).1 = 7 ∨ (code pc).1 = 8 ∨ (code pc).1 = 9 ∨ (code pc).1 = 10 ∨ (code pc).1 = 11 ∨ (code pc).1 = 12 := by omega
      rcases hcs with ho | ho | ho | ho | ho | ho | ho | ho | ho | ho | ho | ho | ho
      · -- 0
        obtain ⟨h1, h2⟩ := ev_0 cp ho h
        refine E_iload dX12_reckonsTo_16 rfl ?_
        refine E_iload_n dX12_reckonsTo_18 rfl ?_
        refine E_cN_ge (a := pc) (b := to) (tgt := 233) dX12_reckonsTo_19 (by omega) (by omega) (by decide) (fun cw19 => absurd cw19 (by omega)) (fun cw19 => ?_)
        refine E_aload_n dX12_reckonsTo_22 rfl ?_
        refine E_getR dX12_reckonsTo_23 f_X12_50 rfl (Nat.lt_of_lt_of_le (by decide) hN) rfl (hR _ _ _ rfl) ?_
        refine E_iload dX12_reckonsTo_26 rfl ?_
        refine E_ialdN dX12_reckonsTo_28 rfl (Nat.lt_of_lt_of_le (by decide) hN) (by omega) ?_
        refine E.top ((hcode pc (by omega)).trans (congrArg (fun z => nI (1048576 * z + (code pc).2)) ho)) ?_
        refine E_ldc (nI 1048576) dX12_reckonsTo_29 k_X12_163 ?_
        refine E_idiv dX12_reckonsTo_31 (by decide) ?_
        refine E.top (pk_div (a := 1048576 * 0 + (code pc).2) (d := 1048576) (by omega) (by decide) (by decide)) ?_
        refine E.top (congrArg nI (show (1048576 * 0 + (code pc).2) / 1048576 = 0 by omega)) ?_
        refine E_istore dX12_reckonsTo_32 (Nat.le_of_ble_eq_true rfl) ?_
        refine E_aload_n dX12_reckonsTo_34 rfl ?_
        refine E_getR dX12_reckonsTo_35 f_X12_50 rfl (Nat.lt_of_lt_of_le (by decide) hN) rfl (hR _ _ _ rfl) ?_
        refine E_iload dX12_reckonsTo_38 rfl ?_
        refine E_ialdN dX12_reckonsTo_40 rfl (Nat.lt_of_lt_of_le (by decide) hN) (by omega) ?_
        refine E.top ((hcode pc (by omega)).trans (congrArg (fun z => nI (1048576 * z + (code pc).2)) ho)) ?_
        refine E_ldc (nI 1048576) dX12_reckonsTo_41 k_X12_163 ?_
        refine E_irem dX12_reckonsTo_43 (by decide) ?_
        refine E.top (pk_rem (a := 1048576 * 0 + (code pc).2) (d := 1048576) (by omega) (by decide) (by decide)) ?_
        refine E.top (congrArg nI (show (1048576 * 0 + (code pc).2) % 1048576 = (code pc).2 by omega)) ?_
        refine E_istore dX12_reckonsTo_44 (Nat.le_of_ble_eq_true rfl) ?_
        refine E_iload dX12_reckonsTo_46 rfl ?_
        refine E_ic (nI 1) dX12_reckonsTo_48 (by decide) ?_
        refine E_iadd dX12_reckonsTo_49 ?_
        refine E.top (nI_add pc 1) ?_
        refine E_istore dX12_reckonsTo_50 (Nat.le_of_ble_eq_true rfl) ?_
        refine E_iload dX12_reckonsTo_52 rfl ?_
        refine E_zN_eq (a := 0) (tgt := 63) dX12_reckonsTo_54 (by decide) (by decide) (fun cw54 => ?_) (fun cw54 => absurd cw54 (by omega))
        refine E_aload_n dX12_reckonsTo_63 rfl ?_
        refine E_getR dX12_reckonsTo_64 f_X12_65 rfl (Nat.lt_of_lt_of_le (by decide) hN) rfl (hR _ _ _ rfl) ?_
        refine E_iload_n dX12_reckonsTo_67 rfl ?_
        refine E_iload dX12_reckonsTo_68 rfl ?_
        refine E_zN_ne (a := 0) (tgt := 78) dX12_reckonsTo_70 (by decide) (by decide) (fun cw70 => absurd cw70 (by omega)) (fun cw70 => ?_)
        refine E_iload dX12_reckonsTo_73 rfl ?_
        refine E_goto (tgt := 85) dX12_reckonsTo_75 (by decide) ?_
        refine E_iastN dX12_reckonsTo_85 rfl (Nat.lt_of_lt_of_le (by decide) hN) (by omega) ?_
        refine E_iload_n dX12_reckonsTo_86 rfl ?_
        refine E_ic (nI 1) dX12_reckonsTo_87 (by decide) ?_
        refine E_iadd dX12_reckonsTo_88 ?_
        refine E.top (nI_add (st.length) 1) ?_
        refine E_istore_n dX12_reckonsTo_89 (Nat.le_of_ble_eq_true rfl) ?_
        refine E_goto (tgt := 230) dX12_reckonsTo_90 (by decide) ?_
        refine E_goto (tgt := 16) dX12_reckonsTo_230 (by decide) ?_
        refine E.mask [true, true, true, true, true, true, false, false] ?_
        exact ih (pc + 1) (nI (code pc).2 :: st) _ h2 (fun i hi => (congrFun (up2_o I 133 _ _ 128 (by decide)) i).trans (hcode i hi)) (fun j hj => (congrFun (up2_o I 133 _ _ 134 (by decide)) j).trans (hfa j hj)) (hsk.push _) (by omega) (by rw [List.length_cons]; omega) (fun I2 f2 => hQ I2 (fun x hx => (f2 x hx).trans (up2_o I 133 _ _ x hx)))
      · -- 1
        obtain ⟨h1, h1b, h2⟩ := ev_1 cp ho h
        refine E_iload dX12_reckonsTo_16 rfl ?_
        refine E_iload_n dX12_reckonsTo_18 rfl ?_
        refine E_cN_ge (a := pc) (b := to) (tgt := 233) dX12_reckonsTo_19 (by omega) (by omega) (by decide) (fun cw19 => absurd cw19 (by omega)) (fun cw19 => ?_)
        refine E_aload_n dX12_reckonsTo_22 rfl ?_
        refine E_getR dX12_reckonsTo_23 f_X12_50 rfl (Nat.lt_of_lt_of_le (by decide) hN) rfl (hR _ _ _ rfl) ?_
        refine E_iload dX12_reckonsTo_26 rfl ?_
        refine E_ialdN dX12_reckonsTo_28 rfl (Nat.lt_of_lt_of_le (by decide) hN) (by omega) ?_
        refine E.top ((hcode pc (by omega)).trans (congrArg (fun z => nI (1048576 * z + (code pc).2)) ho)) ?_
        refine E_ldc (nI 1048576) dX12_reckonsTo_29 k_X12_163 ?_
        refine E_idiv dX12_reckonsTo_31 (by decide) ?_
        refine E.top (pk_div (a := 1048576 * 1 + (code pc).2) (d := 1048576) (by omega) (by decide) (by decide)) ?_
        refine E.top (congrArg nI (show (1048576 * 1 + (code pc).2) / 1048576 = 1 by omega)) ?_
        refine E_istore dX12_reckonsTo_32 (Nat.le_of_ble_eq_true rfl) ?_
        refine E_aload_n dX12_reckonsTo_34 rfl ?_
        refine E_getR dX12_reckonsTo_35 f_X12_50 rfl (Nat.lt_of_lt_of_le (by decide) hN) rfl (hR _ _ _ rfl) ?_
        refine E_iload dX12_reckonsTo_38 rfl ?_
        refine E_ialdN dX12_reckonsTo_40 rfl (Nat.lt_of_lt_of_le (by decide) hN) (by omega) ?_
        refine E.top ((hcode pc (by omega)).trans (congrArg (fun z => nI (1048576 * z + (code pc).2)) ho)) ?_
        refine E_ldc (nI 1048576) dX12_reckonsTo_41 k_X12_163 ?_
        refine E_irem dX12_reckonsTo_43 (by decide) ?_
        refine E.top (pk_rem (a := 1048576 * 1 + (code pc).2) (d := 1048576) (by omega) (by decide) (by decide)) ?_
        refine E.top (congrArg nI (show (1048576 * 1 + (code pc).2) % 1048576 = (code pc).2 by omega)) ?_
        refine E_istore dX12_reckonsTo_44 (Nat.le_of_ble_eq_true rfl) ?_
        refine E_iload dX12_reckonsTo_46 rfl ?_
        refine E_ic (nI 1) dX12_reckonsTo_48 (by decide) ?_
        refine E_iadd dX12_reckonsTo_49 ?_
        refine E.top (nI_add pc 1) ?_
        refine E_istore dX12_reckonsTo_50 (Nat.le_of_ble_eq_true rfl) ?_
        refine E_iload dX12_reckonsTo_52 rfl ?_
        refine E_zN_eq (a := 1) (tgt := 63) dX12_reckonsTo_54 (by decide) (by decide) (fun cw54 => absurd cw54 (by omega)) (fun cw54 => ?_)
        refine E_iload dX12_reckonsTo_57 rfl ?_
        refine E_ic (nI 1) dX12_reckonsTo_59 (by decide) ?_
        refine E_cN_ne (a := 1) (b := 1) (tgt := 93) dX12_reckonsTo_60 (by decide) (by decide) (by decide) (fun cw60 => absurd cw60 (by omega)) (fun cw60 => ?_)
        refine E_aload_n dX12_reckonsTo_63 rfl ?_
        refine E_getR dX12_reckonsTo_64 f_X12_65 rfl (Nat.lt_of_lt_of_le (by decide) hN) rfl (hR _ _ _ rfl) ?_
        refine E_iload_n dX12_reckonsTo_67 rfl ?_
        refine E_iload dX12_reckonsTo_68 rfl ?_
        refine E_zN_ne (a := 1) (tgt := 78) dX12_reckonsTo_70 (by decide) (by decide) (fun cw70 => ?_) (fun cw70 => absurd cw70 (by omega))
        refine E_aload_n dX12_reckonsTo_78 rfl ?_
        refine E_getR dX12_reckonsTo_79 f_X12_68 rfl (Nat.lt_of_lt_of_le (by decide) hN) rfl (hR _ _ _ rfl) ?_
        refine E_iload dX12_reckonsTo_82 rfl ?_
        refine E_ialdN dX12_reckonsTo_84 rfl (Nat.lt_of_lt_of_le (by decide) hN) (by omega) ?_
        refine E.top (hfa _ (by omega)) ?_
        refine E_iastN dX12_reckonsTo_85 rfl (Nat.lt_of_lt_of_le (by decide) hN) (by omega) ?_
        refine E_iload_n dX12_reckonsTo_86 rfl ?_
        refine E_ic (nI 1) dX12_reckonsTo_87 (by decide) ?_
        refine E_iadd dX12_reckonsTo_88 ?_
        refine E.top (nI_add (st.length) 1) ?_
        refine E_istore_n dX12_reckonsTo_89 (Nat.le_of_ble_eq_true rfl) ?_
        refine E_goto (tgt := 230) dX12_reckonsTo_90 (by decide) ?_
        refine E_goto (tgt := 16) dX12_reckonsTo_230 (by decide) ?_
        refine E.mask [true, true, true, true, true, true, false, false] ?_
        exact ih (pc + 1) (fa (code pc).2 :: st) _ h2 (fun i hi => (congrFun (up2_o I 133 _ _ 128 (by decide)) i).trans (hcode i hi)) (fun j hj => (congrFun (up2_o I 133 _ _ 134 (by decide)) j).trans (hfa j hj)) (hsk.push _) (by omega) (by rw [List.length_cons]; omega) (fun I2 f2 => hQ I2 (fun x hx => (f2 x hx).trans (up2_o I 133 _ _ x hx)))
      · -- 2
        obtain ⟨y, x, s, rfl, h2⟩ := ev_2 cp ho h
        have hl2 : s.length + 2 ≤ 32 := hlen
        refine E_iload dX12_reckonsTo_16 rfl ?_
        refine E_iload_n dX12_reckonsTo_18 rfl ?_
        refine E_cN_ge (a := pc) (b := to) (tgt := 233) dX12_reckonsTo_19 (by omega) (by omega) (by decide) (fun cw19 => absurd cw19 (by omega)) (fun cw19 => ?_)
        refine E_aload_n dX12_reckonsTo_22 rfl ?_
        refine E_getR dX12_reckonsTo_23 f_X12_50 rfl (Nat.lt_of_lt_of_le (by decide) hN) rfl (hR _ _ _ rfl) ?_
        refine E_iload dX12_reckonsTo_26 rfl ?_
        refine E_ialdN dX12_reckonsTo_28 rfl (Nat.lt_of_lt_of_le (by decide) hN) (by omega) ?_
        refine E.top ((hcode pc (by omega)).trans (congrArg (fun z => nI (1048576 * z + (code pc).2)) ho)) ?_
        refine E_ldc (nI 1048576) dX12_reckonsTo_29 k_X12_163 ?_
        refine E_idiv dX12_reckonsTo_31 (by decide) ?_
        refine E.top (pk_div (a := 1048576 * 2 + (code pc).2) (d := 1048576) (by omega) (by decide) (by decide)) ?_
        refine E.top (congrArg nI (show (1048576 * 2 + (code pc).2) / 1048576 = 2 by omega)) ?_
        refine E_istore dX12_reckonsTo_32 (Nat.le_of_ble_eq_true rfl) ?_
        refine E_aload_n dX12_reckonsTo_34 rfl ?_
        refine E_getR dX12_reckonsTo_35 f_X12_50 rfl (Nat.lt_of_lt_of_le (by decide) hN) rfl (hR _ _ _ rfl) ?_
        refine E_iload dX12_reckonsTo_38 rfl ?_
        refine E_ialdN dX12_reckonsTo_40 rfl (Nat.lt_of_lt_of_le (by decide) hN) (by omega) ?_
        refine E.top ((hcode pc (by omega)).trans (congrArg (fun z => nI (1048576 * z + (code pc).2)) ho)) ?_
        refine E_ldc (nI 1048576) dX12_reckonsTo_41 k_X12_163 ?_
        refine E_irem dX12_reckonsTo_43 (by decide) ?_
        refine E.top (pk_rem (a := 1048576 * 2 + (code pc).2) (d := 1048576) (by omega) (by decide) (by decide)) ?_
        refine E.top (congrArg nI (show (1048576 * 2 + (code pc).2) % 1048576 = (code pc).2 by omega)) ?_
        refine E_istore dX12_reckonsTo_44 (Nat.le_of_ble_eq_true rfl) ?_
        refine E_iload dX12_reckonsTo_46 rfl ?_
        refine E_ic (nI 1) dX12_reckonsTo_48 (by decide) ?_
        refine E_iadd dX12_reckonsTo_49 ?_
        refine E.top (nI_add pc 1) ?_
        refine E_istore dX12_reckonsTo_50 (Nat.le_of_ble_eq_true rfl) ?_
        refine E_iload dX12_reckonsTo_52 rfl ?_
        refine E_zN_eq (a := 2) (tgt := 63) dX12_reckonsTo_54 (by decide) (by decide) (fun cw54 => absurd cw54 (by omega)) (fun cw54 => ?_)
        refine E_iload dX12_reckonsTo_57 rfl ?_
        refine E_ic (nI 1) dX12_reckonsTo_59 (by decide) ?_
        refine E_cN_ne (a := 2) (b := 1) (tgt := 93) dX12_reckonsTo_60 (by decide) (by decide) (by decide) (fun cw60 => ?_) (fun cw60 => absurd cw60 (by omega))
        refine E_iload dX12_reckonsTo_93 rfl ?_
        refine E_bp (nI 10) dX12_reckonsTo_95 (by decide) ?_
        refine E_cN_ne (a := 2) (b := 10) (tgt := 121) dX12_reckonsTo_97 (by decide) (by decide) (by decide) (fun cw97 => ?_) (fun cw97 => absurd cw97 (by omega))
        refine E_iload dX12_reckonsTo_121 rfl ?_
        refine E_bp (nI 11) dX12_reckonsTo_123 (by decide) ?_
        refine E_cN_eq (a := 2) (b := 11) (tgt := 135) dX12_reckonsTo_125 (by decide) (by decide) (by decide) (fun cw125 => absurd cw125 (by omega)) (fun cw125 => ?_)
        refine E_iload dX12_reckonsTo_128 rfl ?_
        refine E_bp (nI 12) dX12_reckonsTo_130 (by decide) ?_
        refine E_cN_ne (a := 2) (b := 12) (tgt := 175) dX12_reckonsTo_132 (by decide) (by decide) (by decide) (fun cw132 => ?_) (fun cw132 => absurd cw132 (by omega))
        refine E_iload_n dX12_reckonsTo_175 rfl ?_
        refine E_ic (nI 1) dX12_reckonsTo_176 (by decide) ?_
        refine E_isub dX12_reckonsTo_177 ?_
        refine E.top (pk_sub (a := s.length + 2) (b := 1) (by omega)) ?_
        refine E.top (congrArg nI (show s.length + 2 - 1 = s.length + 1 by omega)) ?_
        refine E_istore_n dX12_reckonsTo_178 (Nat.le_of_ble_eq_true rfl) ?_
        refine E_iload dX12_reckonsTo_179 rfl ?_
        refine E_ic (nI 5) dX12_reckonsTo_181 (by decide) ?_
        refine E_cN_eq (a := 2) (b := 5) (tgt := 192) dX12_reckonsTo_182 (by decide) (by decide) (by decide) (fun cw182 => absurd cw182 (by omega)) (fun cw182 => ?_)
        refine E_iload dX12_reckonsTo_185 rfl ?_
        refine E_bp (nI 6) dX12_reckonsTo_187 (by decide) ?_
        refine E_cN_ne (a := 2) (b := 6) (tgt := 203) dX12_reckonsTo_189 (by decide) (by decide) (by decide) (fun cw189 => ?_) (fun cw189 => absurd cw189 (by omega))
        refine E_aload_n dX12_reckonsTo_203 rfl ?_
        refine E_getR dX12_reckonsTo_204 f_X12_65 rfl (Nat.lt_of_lt_of_le (by decide) hN) rfl (hR _ _ _ rfl) ?_
        refine E_iload_n dX12_reckonsTo_207 rfl ?_
        refine E_ic (nI 1) dX12_reckonsTo_208 (by decide) ?_
        refine E_isub dX12_reckonsTo_209 ?_
        refine E.top (pk_sub (a := s.length + 1) (b := 1) (by omega)) ?_
        refine E.top (congrArg nI (Nat.add_sub_cancel (n := s.length) (m := 1))) ?_
        refine E_iload dX12_reckonsTo_210 rfl ?_
        refine E_aload_n dX12_reckonsTo_212 rfl ?_
        refine E_getR dX12_reckonsTo_213 f_X12_65 rfl (Nat.lt_of_lt_of_le (by decide) hN) rfl (hR _ _ _ rfl) ?_
        refine E_iload_n dX12_reckonsTo_216 rfl ?_
        refine E_ic (nI 1) dX12_reckonsTo_217 (by decide) ?_
        refine E_isub dX12_reckonsTo_218 ?_
        refine E.top (pk_sub (a := s.length + 1) (b := 1) (by omega)) ?_
        refine E.top (congrArg nI (Nat.add_sub_cancel (n := s.length) (m := 1))) ?_
        refine E_ialdN dX12_reckonsTo_219 rfl (Nat.lt_of_lt_of_le (by decide) hN) (by omega) ?_
        refine E.top (hsk.2.1) ?_
        refine E_aload_n dX12_reckonsTo_220 rfl ?_
        refine E_getR dX12_reckonsTo_221 f_X12_65 rfl (Nat.lt_of_lt_of_le (by decide) hN) rfl (hR _ _ _ rfl) ?_
        refine E_iload_n dX12_reckonsTo_224 rfl ?_
        refine E_ialdN dX12_reckonsTo_225 rfl (Nat.lt_of_lt_of_le (by decide) hN) (by omega) ?_
        refine E.top (hsk.1) ?_
        refine E_callS (As := [_, _, _]) (kc' := 0) (ks' := 0) (kc := 0) (ks := 0) dX12_reckonsTo_226 ok_X12_reckon w_X12_234 st_X12_reckon rfl rfl rfl (Nat.le_of_ble_eq_true rfl) (Nat.le_of_ble_eq_true rfl) (Nat.le_refl _) (m_reckon2 ?_)
        refine E_iastN dX12_reckonsTo_229 rfl (Nat.lt_of_lt_of_le (by decide) hN) (by omega) ?_
        refine E_goto (tgt := 16) dX12_reckonsTo_230 (by decide) ?_
        refine E.mask [true, true, true, true, true, true, false, false] ?_
        exact ih (pc + 1) (rkn 2 x y :: s) _ h2 (fun i hi => (congrFun (up2_o I 133 _ _ 128 (by decide)) i).trans (hcode i hi)) (fun j hj => (congrFun (up2_o I 133 _ _ 134 (by decide)) j).trans (hfa j hj)) (hsk.2.2.push _) (by omega) (by show s.length + 1 ≤ 32; omega) (fun I2 f2 => hQ I2 (fun x hx => (f2 x hx).trans (up2_o I 133 _ _ x hx)))
      · -- 3
        obtain ⟨y, x, s, rfl, h2⟩ := ev_3 cp ho h
        have hl2 : s.length + 2 ≤ 32 := hlen
        refine E_iload dX12_reckonsTo_16 rfl ?_
        refine E_iload_n dX12_reckonsTo_18 rfl ?_
        refine E_cN_ge (a := pc) (b := to) (tgt := 233) dX12_reckonsTo_19 (by omega) (by omega) (by decide) (fun cw19 => absurd cw19 (by omega)) (fun cw19 => ?_)
        refine E_aload_n dX12_reckonsTo_22 rfl ?_
        refine E_getR dX12_reckonsTo_23 f_X12_50 rfl (Nat.lt_of_lt_of_le (by decide) hN) rfl (hR _ _ _ rfl) ?_
        refine E_iload dX12_reckonsTo_26 rfl ?_
        refine E_ialdN dX12_reckonsTo_28 rfl (Nat.lt_of_lt_of_le (by decide) hN) (by omega) ?_
        refine E.top ((hcode pc (by omega)).trans (congrArg (fun z => nI (1048576 * z + (code pc).2)) ho)) ?_
        refine E_ldc (nI 1048576) dX12_reckonsTo_29 k_X12_163 ?_
        refine E_idiv dX12_reckonsTo_31 (by decide) ?_
        refine E.top (pk_div (a := 1048576 * 3 + (code pc).2) (d := 1048576) (by omega) (by decide) (by decide)) ?_
        refine E.top (congrArg nI (show (1048576 * 3 + (code pc).2) / 1048576 = 3 by omega)) ?_
        refine E_istore dX12_reckonsTo_32 (Nat.le_of_ble_eq_true rfl) ?_
        refine E_aload_n dX12_reckonsTo_34 rfl ?_
        refine E_getR dX12_reckonsTo_35 f_X12_50 rfl (Nat.lt_of_lt_of_le (by decide) hN) rfl (hR _ _ _ rfl) ?_
        refine E_iload dX12_reckonsTo_38 rfl ?_
        refine E_ialdN dX12_reckonsTo_40 rfl (Nat.lt_of_lt_of_le (by decide) hN) (by omega) ?_
        refine E.top ((hcode pc (by omega)).trans (congrArg (fun z => nI (1048576 * z + (code pc).2)) ho)) ?_
        refine E_ldc (nI 1048576) dX12_reckonsTo_41 k_X12_163 ?_
        refine E_irem dX12_reckonsTo_43 (by decide) ?_
        refine E.top (pk_rem (a := 1048576 * 3 + (code pc).2) (d := 1048576) (by omega) (by decide) (by decide)) ?_
        refine E.top (congrArg nI (show (1048576 * 3 + (code pc).2) % 1048576 = (code pc).2 by omega)) ?_
        refine E_istore dX12_reckonsTo_44 (Nat.le_of_ble_eq_true rfl) ?_
        refine E_iload dX12_reckonsTo_46 rfl ?_
        refine E_ic (nI 1) dX12_reckonsTo_48 (by decide) ?_
        refine E_iadd dX12_reckonsTo_49 ?_
        refine E.top (nI_add pc 1) ?_
        refine E_istore dX12_reckonsTo_50 (Nat.le_of_ble_eq_true rfl) ?_
        refine E_iload dX12_reckonsTo_52 rfl ?_
        refine E_zN_eq (a := 3) (tgt := 63) dX12_reckonsTo_54 (by decide) (by decide) (fun cw54 => absurd cw54 (by omega)) (fun cw54 => ?_)
        refine E_iload dX12_reckonsTo_57 rfl ?_
        refine E_ic (nI 1) dX12_reckonsTo_59 (by decide) ?_
        refine E_cN_ne (a := 3) (b := 1) (tgt := 93) dX12_reckonsTo_60 (by decide) (by decide) (by decide) (fun cw60 => ?_) (fun cw60 => absurd cw60 (by omega))
        refine E_iload dX12_reckonsTo_93 rfl ?_
        refine E_bp (nI 10) dX12_reckonsTo_95 (by decide) ?_
        refine E_cN_ne (a := 3) (b := 10) (tgt := 121) dX12_reckonsTo_97 (by decide) (by decide) (by decide) (fun cw97 => ?_) (fun cw97 => absurd cw97 (by omega))
        refine E_iload dX12_reckonsTo_121 rfl ?_
        refine E_bp (nI 11) dX12_reckonsTo_123 (by decide) ?_
        refine E_cN_eq (a := 3) (b := 11) (tgt := 135) dX12_reckonsTo_125 (by decide) (by decide) (by decide) (fun cw125 => absurd cw125 (by omega)) (fun cw125 => ?_)
        refine E_iload dX12_reckonsTo_128 rfl ?_
        refine E_bp (nI 12) dX12_reckonsTo_130 (by decide) ?_
        refine E_cN_ne (a := 3) (b := 12) (tgt := 175) dX12_reckonsTo_132 (by decide) (by decide) (by decide) (fun cw132 => ?_) (fun cw132 => absurd cw132 (by omega))
        refine E_iload_n dX12_reckonsTo_175 rfl ?_
        refine E_ic (nI 1) dX12_reckonsTo_176 (by decide) ?_
        refine E_isub dX12_reckonsTo_177 ?_
        refine E.top (pk_sub (a := s.length + 2) (b := 1) (by omega)) ?_
        refine E.top (congrArg nI (show s.length + 2 - 1 = s.length + 1 by omega)) ?_
        refine E_istore_n dX12_reckonsTo_178 (Nat.le_of_ble_eq_true rfl) ?_
        refine E_iload dX12_reckonsTo_179 rfl ?_
        refine E_ic (nI 5) dX12_reckonsTo_181 (by decide) ?_
        refine E_cN_eq (a := 3) (b := 5) (tgt := 192) dX12_reckonsTo_182 (by decide) (by decide) (by decide) (fun cw182 => absurd cw182 (by omega)) (fun cw182 => ?_)
        refine E_iload dX12_reckonsTo_185 rfl ?_
        refine E_bp (nI 6) dX12_reckonsTo_187 (by decide) ?_
        refine E_cN_ne (a := 3) (b := 6) (tgt := 203) dX12_reckonsTo_189 (by decide) (by decide) (by decide) (fun cw189 => ?_) (fun cw189 => absurd cw189 (by omega))
        refine E_aload_n dX12_reckonsTo_203 rfl ?_
        refine E_getR dX12_reckonsTo_204 f_X12_65 rfl (Nat.lt_of_lt_of_le (by decide) hN) rfl (hR _ _ _ rfl) ?_
        refine E_iload_n dX12_reckonsTo_207 rfl ?_
        refine E_ic (nI 1) dX12_reckonsTo_208 (by decide) ?_
        refine E_isub dX12_reckonsTo_209 ?_
        refine E.top (pk_sub (a := s.length + 1) (b := 1) (by omega)) ?_
        refine E.top (congrArg nI (Nat.add_sub_cancel (n := s.length) (m := 1))) ?_
        refine E_iload dX12_reckonsTo_210 rfl ?_
        refine E_aload_n dX12_reckonsTo_212 rfl ?_
        refine E_getR dX12_reckonsTo_213 f_X12_65 rfl (Nat.lt_of_lt_of_le (by decide) hN) rfl (hR _ _ _ rfl) ?_
        refine E_iload_n dX12_reckonsTo_216 rfl ?_
        refine E_ic (nI 1) dX12_reckonsTo_217 (by decide) ?_
        refine E_isub dX12_reckonsTo_218 ?_
        refine E.top (pk_sub (a := s.length + 1) (b := 1) (by omega)) ?_
        refine E.top (congrArg nI (Nat.add_sub_cancel (n := s.length) (m := 1))) ?_
        refine E_ialdN dX12_reckonsTo_219 rfl (Nat.lt_of_lt_of_le (by decide) hN) (by omega) ?_
        refine E.top (hsk.2.1) ?_
        refine E_aload_n dX12_reckonsTo_220 rfl ?_
        refine E_getR dX12_reckonsTo_221 f_X12_65 rfl (Nat.lt_of_lt_of_le (by decide) hN) rfl (hR _ _ _ rfl) ?_
        refine E_iload_n dX12_reckonsTo_224 rfl ?_
        refine E_ialdN dX12_reckonsTo_225 rfl (Nat.lt_of_lt_of_le (by decide) hN) (by omega) ?_
        refine E.top (hsk.1) ?_
        refine E_callS (As := [_, _, _]) (kc' := 0) (ks' := 0) (kc := 0) (ks := 0) dX12_reckonsTo_226 ok_X12_reckon w_X12_234 st_X12_reckon rfl rfl rfl (Nat.le_of_ble_eq_true rfl) (Nat.le_of_ble_eq_true rfl) (Nat.le_refl _) (m_reckon3 ?_)
        refine E_iastN dX12_reckonsTo_229 rfl (Nat.lt_of_lt_of_le (by decide) hN) (by omega) ?_
        refine E_goto (tgt := 16) dX12_reckonsTo_230 (by decide) ?_
        refine E.mask [true, true, true, true, true, true, false, false] ?_
        exact ih (pc + 1) (rkn 3 x y :: s) _ h2 (fun i hi => (congrFun (up2_o I 133 _ _ 128 (by decide)) i).trans (hcode i hi)) (fun j hj => (congrFun (up2_o I 133 _ _ 134 (by decide)) j).trans (hfa j hj)) (hsk.2.2.push _) (by omega) (by show s.length + 1 ≤ 32; omega) (fun I2 f2 => hQ I2 (fun x hx => (f2 x hx).trans (up2_o I 133 _ _ x hx)))
      · -- 4
        obtain ⟨y, x, s, rfl, h2⟩ := ev_4 cp ho h
        have hl2 : s.length + 2 ≤ 32 := hlen
        refine E_iload dX12_reckonsTo_16 rfl ?_
        refine E_iload_n dX12_reckonsTo_18 rfl ?_
        refine E_cN_ge (a := pc) (b := to) (tgt := 233) dX12_reckonsTo_19 (by omega) (by omega) (by decide) (fun cw19 => absurd cw19 (by omega)) (fun cw19 => ?_)
        refine E_aload_n dX12_reckonsTo_22 rfl ?_
        refine E_getR dX12_reckonsTo_23 f_X12_50 rfl (Nat.lt_of_lt_of_le (by decide) hN) rfl (hR _ _ _ rfl) ?_
        refine E_iload dX12_reckonsTo_26 rfl ?_
        refine E_ialdN dX12_reckonsTo_28 rfl (Nat.lt_of_lt_of_le (by decide) hN) (by omega) ?_
        refine E.top ((hcode pc (by omega)).trans (congrArg (fun z => nI (1048576 * z + (code pc).2)) ho)) ?_
        refine E_ldc (nI 1048576) dX12_reckonsTo_29 k_X12_163 ?_
        refine E_idiv dX12_reckonsTo_31 (by decide) ?_
        refine E.top (pk_div (a := 1048576 * 4 + (code pc).2) (d := 1048576) (by omega) (by decide) (by decide)) ?_
        refine E.top (congrArg nI (show (1048576 * 4 + (code pc).2) / 1048576 = 4 by omega)) ?_
        refine E_istore dX12_reckonsTo_32 (Nat.le_of_ble_eq_true rfl) ?_
        refine E_aload_n dX12_reckonsTo_34 rfl ?_
        refine E_getR dX12_reckonsTo_35 f_X12_50 rfl (Nat.lt_of_lt_of_le (by decide) hN) rfl (hR _ _ _ rfl) ?_
        refine E_iload dX12_reckonsTo_38 rfl ?_
        refine E_ialdN dX12_reckonsTo_40 rfl (Nat.lt_of_lt_of_le (by decide) hN) (by omega) ?_
        refine E.top ((hcode pc (by omega)).trans (congrArg (fun z => nI (1048576 * z + (code pc).2)) ho)) ?_
        refine E_ldc (nI 1048576) dX12_reckonsTo_41 k_X12_163 ?_
        refine E_irem dX12_reckonsTo_43 (by decide) ?_
        refine E.top (pk_rem (a := 1048576 * 4 + (code pc).2) (d := 1048576) (by omega) (by decide) (by decide)) ?_
        refine E.top (congrArg nI (show (1048576 * 4 + (code pc).2) % 1048576 = (code pc).2 by omega)) ?_
        refine E_istore dX12_reckonsTo_44 (Nat.le_of_ble_eq_true rfl) ?_
        refine E_iload dX12_reckonsTo_46 rfl ?_
        refine E_ic (nI 1) dX12_reckonsTo_48 (by decide) ?_
        refine E_iadd dX12_reckonsTo_49 ?_
        refine E.top (nI_add pc 1) ?_
        refine E_istore dX12_reckonsTo_50 (Nat.le_of_ble_eq_true rfl) ?_
        refine E_iload dX12_reckonsTo_52 rfl ?_
        refine E_zN_eq (a := 4) (tgt := 63) dX12_reckonsTo_54 (by decide) (by decide) (fun cw54 => absurd cw54 (by omega)) (fun cw54 => ?_)
        refine E_iload dX12_reckonsTo_57 rfl ?_
        refine E_ic (nI 1) dX12_reckonsTo_59 (by decide) ?_
        refine E_cN_ne (a := 4) (b := 1) (tgt := 93) dX12_reckonsTo_60 (by decide) (by decide) (by decide) (fun cw60 => ?_) (fun cw60 => absurd cw60 (by omega))
        refine E_iload dX12_reckonsTo_93 rfl ?_
        refine E_bp (nI 10) dX12_reckonsTo_95 (by decide) ?_
        refine E_cN_ne (a := 4) (b := 10) (tgt := 121) dX12_reckonsTo_97 (by decide) (by decide) (by decide) (fun cw97 => ?_) (fun cw97 => absurd cw97 (by omega))
        refine E_iload dX12_reckonsTo_121 rfl ?_
        refine E_bp (nI 11) dX12_reckonsTo_123 (by decide) ?_
        refine E_cN_eq (a := 4) (b := 11) (tgt := 135) dX12_reckonsTo_125 (by decide) (by decide) (by decide) (fun cw125 => absurd cw125 (by omega)) (fun cw125 => ?_)
        refine E_iload dX12_reckonsTo_128 rfl ?_
        refine E_bp (nI 12) dX12_reckonsTo_130 (by decide) ?_
        refine E_cN_ne (a := 4) (b := 12) (tgt := 175) dX12_reckonsTo_132 (by decide) (by decide) (by decide) (fun cw132 => ?_) (fun cw132 => absurd cw132 (by omega))
        refine E_iload_n dX12_reckonsTo_175 rfl ?_
        refine E_ic (nI 1) dX12_reckonsTo_176 (by decide) ?_
        refine E_isub dX12_reckonsTo_177 ?_
        refine E.top (pk_sub (a := s.length + 2) (b := 1) (by omega)) ?_
        refine E.top (congrArg nI (show s.length + 2 - 1 = s.length + 1 by omega)) ?_
        refine E_istore_n dX12_reckonsTo_178 (Nat.le_of_ble_eq_true rfl) ?_
        refine E_iload dX12_reckonsTo_179 rfl ?_
        refine E_ic (nI 5) dX12_reckonsTo_181 (by decide) ?_
        refine E_cN_eq (a := 4) (b := 5) (tgt := 192) dX12_reckonsTo_182 (by decide) (by decide) (by decide) (fun cw182 => absurd cw182 (by omega)) (fun cw182 => ?_)
        refine E_iload dX12_reckonsTo_185 rfl ?_
        refine E_bp (nI 6) dX12_reckonsTo_187 (by decide) ?_
        refine E_cN_ne (a := 4) (b := 6) (tgt := 203) dX12_reckonsTo_189 (by decide) (by decide) (by decide) (fun cw189 => ?_) (fun cw189 => absurd cw189 (by omega))
        refine E_aload_n dX12_reckonsTo_203 rfl ?_
        refine E_getR dX12_reckonsTo_204 f_X12_65 rfl (Nat.lt_of_lt_of_le (by decide) hN) rfl (hR _ _ _ rfl) ?_
        refine E_iload_n dX12_reckonsTo_207 rfl ?_
        refine E_ic (nI 1) dX12_reckonsTo_208 (by decide) ?_
        refine E_isub dX12_reckonsTo_209 ?_
        refine E.top (pk_sub (a := s.length + 1) (b := 1) (by omega)) ?_
        refine E.top (congrArg nI (Nat.add_sub_cancel (n := s.length) (m := 1))) ?_
        refine E_iload dX12_reckonsTo_210 rfl ?_
        refine E_aload_n dX12_reckonsTo_212 rfl ?_
        refine E_getR dX12_reckonsTo_213 f_X12_65 rfl (Nat.lt_of_lt_of_le (by decide) hN) rfl (hR _ _ _ rfl) ?_
        refine E_iload_n dX12_reckonsTo_216 rfl ?_
        refine E_ic (nI 1) dX12_reckonsTo_217 (by decide) ?_
        refine E_isub dX12_reckonsTo_218 ?_
        refine E.top (pk_sub (a := s.length + 1) (b := 1) (by omega)) ?_
        refine E.top (congrArg nI (Nat.add_sub_cancel (n := s.length) (m := 1))) ?_
        refine E_ialdN dX12_reckonsTo_219 rfl (Nat.lt_of_lt_of_le (by decide) hN) (by omega) ?_
        refine E.top (hsk.2.1) ?_
        refine E_aload_n dX12_reckonsTo_220 rfl ?_
        refine E_getR dX12_reckonsTo_221 f_X12_65 rfl (Nat.lt_of_lt_of_le (by decide) hN) rfl (hR _ _ _ rfl) ?_
        refine E_iload_n dX12_reckonsTo_224 rfl ?_
        refine E_ialdN dX12_reckonsTo_225 rfl (Nat.lt_of_lt_of_le (by decide) hN) (by omega) ?_
        refine E.top (hsk.1) ?_
        refine E_callS (As := [_, _, _]) (kc' := 0) (ks' := 0) (kc := 0) (ks := 0) dX12_reckonsTo_226 ok_X12_reckon w_X12_234 st_X12_reckon rfl rfl rfl (Nat.le_of_ble_eq_true rfl) (Nat.le_of_ble_eq_true rfl) (Nat.le_refl _) (m_reckon4 ?_)
        refine E_iastN dX12_reckonsTo_229 rfl (Nat.lt_of_lt_of_le (by decide) hN) (by omega) ?_
        refine E_goto (tgt := 16) dX12_reckonsTo_230 (by decide) ?_
        refine E.mask [true, true, true, true, true, true, false, false] ?_
        exact ih (pc + 1) (rkn 4 x y :: s) _ h2 (fun i hi => (congrFun (up2_o I 133 _ _ 128 (by decide)) i).trans (hcode i hi)) (fun j hj => (congrFun (up2_o I 133 _ _ 134 (by decide)) j).trans (hfa j hj)) (hsk.2.2.push _) (by omega) (by show s.length + 1 ≤ 32; omega) (fun I2 f2 => hQ I2 (fun x hx => (f2 x hx).trans (up2_o I 133 _ _ x hx)))
      · -- 5
        obtain ⟨y, x, s, rfl, ⟨hy, hv0⟩ | ⟨hy, h2⟩⟩ := ev_5 cp ho h
        · skip
          have hl2 : s.length + 2 ≤ 32 := hlen
          refine E_iload dX12_reckonsTo_16 rfl ?_
          refine E_iload_n dX12_reckonsTo_18 rfl ?_
          refine E_cN_ge (a := pc) (b := to) (tgt := 233) dX12_reckonsTo_19 (by omega) (by omega) (by decide) (fun cw19 => absurd cw19 (by omega)) (fun cw19 => ?_)
          refine E_aload_n dX12_reckonsTo_22 rfl ?_
          refine E_getR dX12_reckonsTo_23 f_X12_50 rfl (Nat.lt_of_lt_of_le (by decide) hN) rfl (hR _ _ _ rfl) ?_
          refine E_iload dX12_reckonsTo_26 rfl ?_
          refine E_ialdN dX12_reckonsTo_28 rfl (Nat.lt_of_lt_of_le (by decide) hN) (by omega) ?_
          refine E.top ((hcode pc (by omega)).trans (congrArg (fun z => nI (1048576 * z + (code pc).2)) ho)) ?_
          refine E_ldc (nI 1048576) dX12_reckonsTo_29 k_X12_163 ?_
          refine E_idiv dX12_reckonsTo_31 (by decide) ?_
          refine E.top (pk_div (a := 1048576 * 5 + (code pc).2) (d := 1048576) (by omega) (by decide) (by decide)) ?_
          refine E.top (congrArg nI (show (1048576 * 5 + (code pc).2) / 1048576 = 5 by omega)) ?_
          refine E_istore dX12_reckonsTo_32 (Nat.le_of_ble_eq_true rfl) ?_
          refine E_aload_n dX12_reckonsTo_34 rfl ?_
          refine E_getR dX12_reckonsTo_35 f_X12_50 rfl (Nat.lt_of_lt_of_le (by decide) hN) rfl (hR _ _ _ rfl) ?_
          refine E_iload dX12_reckonsTo_38 rfl ?_
          refine E_ialdN dX12_reckonsTo_40 rfl (Nat.lt_of_lt_of_le (by decide) hN) (by omega) ?_
          refine E.top ((hcode pc (by omega)).trans (congrArg (fun z => nI (1048576 * z + (code pc).2)) ho)) ?_
          refine E_ldc (nI 1048576) dX12_reckonsTo_41 k_X12_163 ?_
          refine E_irem dX12_reckonsTo_43 (by decide) ?_
          refine E.top (pk_rem (a := 1048576 * 5 + (code pc).2) (d := 1048576) (by omega) (by decide) (by decide)) ?_
          refine E.top (congrArg nI (show (1048576 * 5 + (code pc).2) % 1048576 = (code pc).2 by omega)) ?_
          refine E_istore dX12_reckonsTo_44 (Nat.le_of_ble_eq_true rfl) ?_
          refine E_iload dX12_reckonsTo_46 rfl ?_
          refine E_ic (nI 1) dX12_reckonsTo_48 (by decide) ?_
          refine E_iadd dX12_reckonsTo_49 ?_
          refine E.top (nI_add pc 1) ?_
          refine E_istore dX12_reckonsTo_50 (Nat.le_of_ble_eq_true rfl) ?_
          refine E_iload dX12_reckonsTo_52 rfl ?_
          refine E_zN_eq (a := 5) (tgt := 63) dX12_reckonsTo_54 (by decide) (by decide) (fun cw54 => absurd cw54 (by omega)) (fun cw54 => ?_)
          refine E_iload dX12_reckonsTo_57 rfl ?_
          refine E_ic (nI 1) dX12_reckonsTo_59 (by decide) ?_
          refine E_cN_ne (a := 5) (b := 1) (tgt := 93) dX12_reckonsTo_60 (by decide) (by decide) (by decide) (fun cw60 => ?_) (fun cw60 => absurd cw60 (by omega))
          refine E_iload dX12_reckonsTo_93 rfl ?_
          refine E_bp (nI 10) dX12_reckonsTo_95 (by decide) ?_
          refine E_cN_ne (a := 5) (b := 10) (tgt := 121) dX12_reckonsTo_97 (by decide) (by decide) (by decide) (fun cw97 => ?_) (fun cw97 => absurd cw97 (by omega))
          refine E_iload dX12_reckonsTo_121 rfl ?_
          refine E_bp (nI 11) dX12_reckonsTo_123 (by decide) ?_
          refine E_cN_eq (a := 5) (b := 11) (tgt := 135) dX12_reckonsTo_125 (by decide) (by decide) (by decide) (fun cw125 => absurd cw125 (by omega)) (fun cw125 => ?_)
          refine E_iload dX12_reckonsTo_128 rfl ?_
          refine E_bp (nI 12) dX12_reckonsTo_130 (by decide) ?_
          refine E_cN_ne (a := 5) (b := 12) (tgt := 175) dX12_reckonsTo_132 (by decide) (by decide) (by decide) (fun cw132 => ?_) (fun cw132 => absurd cw132 (by omega))
          refine E_iload_n dX12_reckonsTo_175 rfl ?_
          refine E_ic (nI 1) dX12_reckonsTo_176 (by decide) ?_
          refine E_isub dX12_reckonsTo_177 ?_
          refine E.top (pk_sub (a := s.length + 2) (b := 1) (by omega)) ?_
          refine E.top (congrArg nI (show s.length + 2 - 1 = s.length + 1 by omega)) ?_
          refine E_istore_n dX12_reckonsTo_178 (Nat.le_of_ble_eq_true rfl) ?_
          refine E_iload dX12_reckonsTo_179 rfl ?_
          refine E_ic (nI 5) dX12_reckonsTo_181 (by decide) ?_
          refine E_cN_eq (a := 5) (b := 5) (tgt := 192) dX12_reckonsTo_182 (by decide) (by decide) (by decide) (fun cw182 => ?_) (fun cw182 => absurd cw182 (by omega))
          refine E_aload_n dX12_reckonsTo_192 rfl ?_
          refine E_getR dX12_reckonsTo_193 f_X12_65 rfl (Nat.lt_of_lt_of_le (by decide) hN) rfl (hR _ _ _ rfl) ?_
          refine E_iload_n dX12_reckonsTo_196 rfl ?_
          refine E_ialdN dX12_reckonsTo_197 rfl (Nat.lt_of_lt_of_le (by decide) hN) (by omega) ?_
          refine E.top (hsk.1) ?_
          refine E_if_ne (tgt := 203) dX12_reckonsTo_198 (by decide) (fun cw198 => by first | exact absurd cw198 (fun z => z hy) | exact absurd (fun z => z hy) cw198) (fun cw198 => ?_)
          refine E_ic (nI 0) dX12_reckonsTo_201 (by decide) ?_
          exact E_iret dX12_reckonsTo_202 rfl (by rw [hv0] at hQ; exact hQ I (fun _ _ => rfl))
        · skip
          have hl2 : s.length + 2 ≤ 32 := hlen
          refine E_iload dX12_reckonsTo_16 rfl ?_
          refine E_iload_n dX12_reckonsTo_18 rfl ?_
          refine E_cN_ge (a := pc) (b := to) (tgt := 233) dX12_reckonsTo_19 (by omega) (by omega) (by decide) (fun cw19 => absurd cw19 (by omega)) (fun cw19 => ?_)
          refine E_aload_n dX12_reckonsTo_22 rfl ?_
          refine E_getR dX12_reckonsTo_23 f_X12_50 rfl (Nat.lt_of_lt_of_le (by decide) hN) rfl (hR _ _ _ rfl) ?_
          refine E_iload dX12_reckonsTo_26 rfl ?_
          refine E_ialdN dX12_reckonsTo_28 rfl (Nat.lt_of_lt_of_le (by decide) hN) (by omega) ?_
          refine E.top ((hcode pc (by omega)).trans (congrArg (fun z => nI (1048576 * z + (code pc).2)) ho)) ?_
          refine E_ldc (nI 1048576) dX12_reckonsTo_29 k_X12_163 ?_
          refine E_idiv dX12_reckonsTo_31 (by decide) ?_
          refine E.top (pk_div (a := 1048576 * 5 + (code pc).2) (d := 1048576) (by omega) (by decide) (by decide)) ?_
          refine E.top (congrArg nI (show (1048576 * 5 + (code pc).2) / 1048576 = 5 by omega)) ?_
          refine E_istore dX12_reckonsTo_32 (Nat.le_of_ble_eq_true rfl) ?_
          refine E_aload_n dX12_reckonsTo_34 rfl ?_
          refine E_getR dX12_reckonsTo_35 f_X12_50 rfl (Nat.lt_of_lt_of_le (by decide) hN) rfl (hR _ _ _ rfl) ?_
          refine E_iload dX12_reckonsTo_38 rfl ?_
          refine E_ialdN dX12_reckonsTo_40 rfl (Nat.lt_of_lt_of_le (by decide) hN) (by omega) ?_
          refine E.top ((hcode pc (by omega)).trans (congrArg (fun z => nI (1048576 * z + (code pc).2)) ho)) ?_
          refine E_ldc (nI 1048576) dX12_reckonsTo_41 k_X12_163 ?_
          refine E_irem dX12_reckonsTo_43 (by decide) ?_
          refine E.top (pk_rem (a := 1048576 * 5 + (code pc).2) (d := 1048576) (by omega) (by decide) (by decide)) ?_
          refine E.top (congrArg nI (show (1048576 * 5 + (code pc).2) % 1048576 = (code pc).2 by omega)) ?_
          refine E_istore dX12_reckonsTo_44 (Nat.le_of_ble_eq_true rfl) ?_
          refine E_iload dX12_reckonsTo_46 rfl ?_
          refine E_ic (nI 1) dX12_reckonsTo_48 (by decide) ?_
          refine E_iadd dX12_reckonsTo_49 ?_
          refine E.top (nI_add pc 1) ?_
          refine E_istore dX12_reckonsTo_50 (Nat.le_of_ble_eq_true rfl) ?_
          refine E_iload dX12_reckonsTo_52 rfl ?_
          refine E_zN_eq (a := 5) (tgt := 63) dX12_reckonsTo_54 (by decide) (by decide) (fun cw54 => absurd cw54 (by omega)) (fun cw54 => ?_)
          refine E_iload dX12_reckonsTo_57 rfl ?_
          refine E_ic (nI 1) dX12_reckonsTo_59 (by decide) ?_
          refine E_cN_ne (a := 5) (b := 1) (tgt := 93) dX12_reckonsTo_60 (by decide) (by decide) (by decide) (fun cw60 => ?_) (fun cw60 => absurd cw60 (by omega))
          refine E_iload dX12_reckonsTo_93 rfl ?_
          refine E_bp (nI 10) dX12_reckonsTo_95 (by decide) ?_
          refine E_cN_ne (a := 5) (b := 10) (tgt := 121) dX12_reckonsTo_97 (by decide) (by decide) (by decide) (fun cw97 => ?_) (fun cw97 => absurd cw97 (by omega))
          refine E_iload dX12_reckonsTo_121 rfl ?_
          refine E_bp (nI 11) dX12_reckonsTo_123 (by decide) ?_
          refine E_cN_eq (a := 5) (b := 11) (tgt := 135) dX12_reckonsTo_125 (by decide) (by decide) (by decide) (fun cw125 => absurd cw125 (by omega)) (fun cw125 => ?_)
          refine E_iload dX12_reckonsTo_128 rfl ?_
          refine E_bp (nI 12) dX12_reckonsTo_130 (by decide) ?_
          refine E_cN_ne (a := 5) (b := 12) (tgt := 175) dX12_reckonsTo_132 (by decide) (by decide) (by decide) (fun cw132 => ?_) (fun cw132 => absurd cw132 (by omega))
          refine E_iload_n dX12_reckonsTo_175 rfl ?_
          refine E_ic (nI 1) dX12_reckonsTo_176 (by decide) ?_
          refine E_isub dX12_reckonsTo_177 ?_
          refine E.top (pk_sub (a := s.length + 2) (b := 1) (by omega)) ?_
          refine E.top (congrArg nI (show s.length + 2 - 1 = s.length + 1 by omega)) ?_
          refine E_istore_n dX12_reckonsTo_178 (Nat.le_of_ble_eq_true rfl) ?_
          refine E_iload dX12_reckonsTo_179 rfl ?_
          refine E_ic (nI 5) dX12_reckonsTo_181 (by decide) ?_
          refine E_cN_eq (a := 5) (b := 5) (tgt := 192) dX12_reckonsTo_182 (by decide) (by decide) (by decide) (fun cw182 => ?_) (fun cw182 => absurd cw182 (by omega))
          refine E_aload_n dX12_reckonsTo_192 rfl ?_
          refine E_getR dX12_reckonsTo_193 f_X12_65 rfl (Nat.lt_of_lt_of_le (by decide) hN) rfl (hR _ _ _ rfl) ?_
          refine E_iload_n dX12_reckonsTo_196 rfl ?_
          refine E_ialdN dX12_reckonsTo_197 rfl (Nat.lt_of_lt_of_le (by decide) hN) (by omega) ?_
          refine E.top (hsk.1) ?_
          refine E_if_ne (tgt := 203) dX12_reckonsTo_198 (by decide) (fun cw198 => ?_) (fun cw198 => by first | exact absurd cw198 (hy) | exact absurd (hy) cw198)
          refine E_aload_n dX12_reckonsTo_203 rfl ?_
          refine E_getR dX12_reckonsTo_204 f_X12_65 rfl (Nat.lt_of_lt_of_le (by decide) hN) rfl (hR _ _ _ rfl) ?_
          refine E_iload_n dX12_reckonsTo_207 rfl ?_
          refine E_ic (nI 1) dX12_reckonsTo_208 (by decide) ?_
          refine E_isub dX12_reckonsTo_209 ?_
          refine E.top (pk_sub (a := s.length + 1) (b := 1) (by omega)) ?_
          refine E.top (congrArg nI (Nat.add_sub_cancel (n := s.length) (m := 1))) ?_
          refine E_iload dX12_reckonsTo_210 rfl ?_
          refine E_aload_n dX12_reckonsTo_212 rfl ?_
          refine E_getR dX12_reckonsTo_213 f_X12_65 rfl (Nat.lt_of_lt_of_le (by decide) hN) rfl (hR _ _ _ rfl) ?_
          refine E_iload_n dX12_reckonsTo_216 rfl ?_
          refine E_ic (nI 1) dX12_reckonsTo_217 (by decide) ?_
          refine E_isub dX12_reckonsTo_218 ?_
          refine E.top (pk_sub (a := s.length + 1) (b := 1) (by omega)) ?_
          refine E.top (congrArg nI (Nat.add_sub_cancel (n := s.length) (m := 1))) ?_
          refine E_ialdN dX12_reckonsTo_219 rfl (Nat.lt_of_lt_of_le (by decide) hN) (by omega) ?_
          refine E.top (hsk.2.1) ?_
          refine E_aload_n dX12_reckonsTo_220 rfl ?_
          refine E_getR dX12_reckonsTo_221 f_X12_65 rfl (Nat.lt_of_lt_of_le (by decide) hN) rfl (hR _ _ _ rfl) ?_
          refine E_iload_n dX12_reckonsTo_224 rfl ?_
          refine E_ialdN dX12_reckonsTo_225 rfl (Nat.lt_of_lt_of_le (by decide) hN) (by omega) ?_
          refine E.top (hsk.1) ?_
          refine E_callS (As := [_, _, _]) (kc' := 0) (ks' := 0) (kc := 0) (ks := 0) dX12_reckonsTo_226 ok_X12_reckon w_X12_234 st_X12_reckon rfl rfl rfl (Nat.le_of_ble_eq_true rfl) (Nat.le_of_ble_eq_true rfl) (Nat.le_refl _) (m_reckon5 hy ?_)
          refine E_iastN dX12_reckonsTo_229 rfl (Nat.lt_of_lt_of_le (by decide) hN) (by omega) ?_
          refine E_goto (tgt := 16) dX12_reckonsTo_230 (by decide) ?_
          refine E.mask [true, true, true, true, true, true, false, false] ?_
          exact ih (pc + 1) (rkn 5 x y :: s) _ h2 (fun i hi => (congrFun (up2_o I 133 _ _ 128 (by decide)) i).trans (hcode i hi)) (fun j hj => (congrFun (up2_o I 133 _ _ 134 (by decide)) j).trans (hfa j hj)) (hsk.2.2.push _) (by omega) (by show s.length + 1 ≤ 32; omega) (fun I2 f2 => hQ I2 (fun x hx => (f2 x hx).trans (up2_o I 133 _ _ x hx)))
      · -- 6
        obtain ⟨y, x, s, rfl, ⟨hy, hv0⟩ | ⟨hy, h2⟩⟩ := ev_6 cp ho h
        · skip
          have hl2 : s.length + 2 ≤ 32 := hlen
          refine E_iload dX12_reckonsTo_16 rfl ?_
          refine E_iload_n dX12_reckonsTo_18 rfl ?_
          refine E_cN_ge (a := pc) (b := to) (tgt := 233) dX12_reckonsTo_19 (by omega) (by omega) (by decide) (fun cw19 => absurd cw19 (by omega)) (fun cw19 => ?_)
          refine E_aload_n dX12_reckonsTo_22 rfl ?_
          refine E_getR dX12_reckonsTo_23 f_X12_50 rfl (Nat.lt_of_lt_of_le (by decide) hN) rfl (hR _ _ _ rfl) ?_
          refine E_iload dX12_reckonsTo_26 rfl ?_
          refine E_ialdN dX12_reckonsTo_28 rfl (Nat.lt_of_lt_of_le (by decide) hN) (by omega) ?_
          refine E.top ((hcode pc (by omega)).trans (congrArg (fun z => nI (1048576 * z + (code pc).2)) ho)) ?_
          refine E_ldc (nI 1048576) dX12_reckonsTo_29 k_X12_163 ?_
          refine E_idiv dX12_reckonsTo_31 (by decide) ?_
          refine E.top (pk_div (a := 1048576 * 6 + (code pc).2) (d := 1048576) (by omega) (by decide) (by decide)) ?_
          refine E.top (congrArg nI (show (1048576 * 6 + (code pc).2) / 1048576 = 6 by omega)) ?_
          refine E_istore dX12_reckonsTo_32 (Nat.le_of_ble_eq_true rfl) ?_
          refine E_aload_n dX12_reckonsTo_34 rfl ?_
          refine E_getR dX12_reckonsTo_35 f_X12_50 rfl (Nat.lt_of_lt_of_le (by decide) hN) rfl (hR _ _ _ rfl) ?_
          refine E_iload dX12_reckonsTo_38 rfl ?_
          refine E_ialdN dX12_reckonsTo_40 rfl (Nat.lt_of_lt_of_le (by decide) hN) (by omega) ?_
          refine E.top ((hcode pc (by omega)).trans (congrArg (fun z => nI (1048576 * z + (code pc).2)) ho)) ?_
          refine E_ldc (nI 1048576) dX12_reckonsTo_41 k_X12_163 ?_
          refine E_irem dX12_reckonsTo_43 (by decide) ?_
          refine E.top (pk_rem (a := 1048576 * 6 + (code pc).2) (d := 1048576) (by omega) (by decide) (by decide)) ?_
          refine E.top (congrArg nI (show (1048576 * 6 + (code pc).2) % 1048576 = (code pc).2 by omega)) ?_
          refine E_istore dX12_reckonsTo_44 (Nat.le_of_ble_eq_true rfl) ?_
          refine E_iload dX12_reckonsTo_46 rfl ?_
          refine E_ic (nI 1) dX12_reckonsTo_48 (by decide) ?_
          refine E_iadd dX12_reckonsTo_49 ?_
          refine E.top (nI_add pc 1) ?_
          refine E_istore dX12_reckonsTo_50 (Nat.le_of_ble_eq_true rfl) ?_
          refine E_iload dX12_reckonsTo_52 rfl ?_
          refine E_zN_eq (a := 6) (tgt := 63) dX12_reckonsTo_54 (by decide) (by decide) (fun cw54 => absurd cw54 (by omega)) (fun cw54 => ?_)
          refine E_iload dX12_reckonsTo_57 rfl ?_
          refine E_ic (nI 1) dX12_reckonsTo_59 (by decide) ?_
          refine E_cN_ne (a := 6) (b := 1) (tgt := 93) dX12_reckonsTo_60 (by decide) (by decide) (by decide) (fun cw60 => ?_) (fun cw60 => absurd cw60 (by omega))
          refine E_iload dX12_reckonsTo_93 rfl ?_
          refine E_bp (nI 10) dX12_reckonsTo_95 (by decide) ?_
          refine E_cN_ne (a := 6) (b := 10) (tgt := 121) dX12_reckonsTo_97 (by decide) (by decide) (by decide) (fun cw97 => ?_) (fun cw97 => absurd cw97 (by omega))
          refine E_iload dX12_reckonsTo_121 rfl ?_
          refine E_bp (nI 11) dX12_reckonsTo_123 (by decide) ?_
          refine E_cN_eq (a := 6) (b := 11) (tgt := 135) dX12_reckonsTo_125 (by decide) (by decide) (by decide) (fun cw125 => absurd cw125 (by omega)) (fun cw125 => ?_)
          refine E_iload dX12_reckonsTo_128 rfl ?_
          refine E_bp (nI 12) dX12_reckonsTo_130 (by decide) ?_
          refine E_cN_ne (a := 6) (b := 12) (tgt := 175) dX12_reckonsTo_132 (by decide) (by decide) (by decide) (fun cw132 => ?_) (fun cw132 => absurd cw132 (by omega))
          refine E_iload_n dX12_reckonsTo_175 rfl ?_
          refine E_ic (nI 1) dX12_reckonsTo_176 (by decide) ?_
          refine E_isub dX12_reckonsTo_177 ?_
          refine E.top (pk_sub (a := s.length + 2) (b := 1) (by omega)) ?_
          refine E.top (congrArg nI (show s.length + 2 - 1 = s.length + 1 by omega)) ?_
          refine E_istore_n dX12_reckonsTo_178 (Nat.le_of_ble_eq_true rfl) ?_
          refine E_iload dX12_reckonsTo_179 rfl ?_
          refine E_ic (nI 5) dX12_reckonsTo_181 (by decide) ?_
          refine E_cN_eq (a := 6) (b := 5) (tgt := 192) dX12_reckonsTo_182 (by decide) (by decide) (by decide) (fun cw182 => absurd cw182 (by omega)) (fun cw182 => ?_)
          refine E_iload dX12_reckonsTo_185 rfl ?_
          refine E_bp (nI 6) dX12_reckonsTo_187 (by decide) ?_
          refine E_cN_ne (a := 6) (b := 6) (tgt := 203) dX12_reckonsTo_189 (by decide) (by decide) (by decide) (fun cw189 => absurd cw189 (by omega)) (fun cw189 => ?_)
          refine E_aload_n dX12_reckonsTo_192 rfl ?_
          refine E_getR dX12_reckonsTo_193 f_X12_65 rfl (Nat.lt_of_lt_of_le (by decide) hN) rfl (hR _ _ _ rfl) ?_
          refine E_iload_n dX12_reckonsTo_196 rfl ?_
          refine E_ialdN dX12_reckonsTo_197 rfl (Nat.lt_of_lt_of_le (by decide) hN) (by omega) ?_
          refine E.top (hsk.1) ?_
          refine E_if_ne (tgt := 203) dX12_reckonsTo_198 (by decide) (fun cw198 => by first | exact absurd cw198 (fun z => z hy) | exact absurd (fun z => z hy) cw198) (fun cw198 => ?_)
          refine E_ic (nI 0) dX12_reckonsTo_201 (by decide) ?_
          exact E_iret dX12_reckonsTo_202 rfl (by rw [hv0] at hQ; exact hQ I (fun _ _ => rfl))
        · skip
          have hl2 : s.length + 2 ≤ 32 := hlen
          refine E_iload dX12_reckonsTo_16 rfl ?_
          refine E_iload_n dX12_reckonsTo_18 rfl ?_
          refine E_cN_ge (a := pc) (b := to) (tgt := 233) dX12_reckonsTo_19 (by omega) (by omega) (by decide) (fun cw19 => absurd cw19 (by omega)) (fun cw19 => ?_)
          refine E_aload_n dX12_reckonsTo_22 rfl ?_
          refine E_getR dX12_reckonsTo_23 f_X12_50 rfl (Nat.lt_of_lt_of_le (by decide) hN) rfl (hR _ _ _ rfl) ?_
          refine E_iload dX12_reckonsTo_26 rfl ?_
          refine E_ialdN dX12_reckonsTo_28 rfl (Nat.lt_of_lt_of_le (by decide) hN) (by omega) ?_
          refine E.top ((hcode pc (by omega)).trans (congrArg (fun z => nI (1048576 * z + (code pc).2)) ho)) ?_
          refine E_ldc (nI 1048576) dX12_reckonsTo_29 k_X12_163 ?_
          refine E_idiv dX12_reckonsTo_31 (by decide) ?_
          refine E.top (pk_div (a := 1048576 * 6 + (code pc).2) (d := 1048576) (by omega) (by decide) (by decide)) ?_
          refine E.top (congrArg nI (show (1048576 * 6 + (code pc).2) / 1048576 = 6 by omega)) ?_
          refine E_istore dX12_reckonsTo_32 (Nat.le_of_ble_eq_true rfl) ?_
          refine E_aload_n dX12_reckonsTo_34 rfl ?_
          refine E_getR dX12_reckonsTo_35 f_X12_50 rfl (Nat.lt_of_lt_of_le (by decide) hN) rfl (hR _ _ _ rfl) ?_
          refine E_iload dX12_reckonsTo_38 rfl ?_
          refine E_ialdN dX12_reckonsTo_40 rfl (Nat.lt_of_lt_of_le (by decide) hN) (by omega) ?_
          refine E.top ((hcode pc (by omega)).trans (congrArg (fun z => nI (1048576 * z + (code pc).2)) ho)) ?_
          refine E_ldc (nI 1048576) dX12_reckonsTo_41 k_X12_163 ?_
          refine E_irem dX12_reckonsTo_43 (by decide) ?_
          refine E.top (pk_rem (a := 1048576 * 6 + (code pc).2) (d := 1048576) (by omega) (by decide) (by decide)) ?_
          refine E.top (congrArg nI (show (1048576 * 6 + (code pc).2) % 1048576 = (code pc).2 by omega)) ?_
          refine E_istore dX12_reckonsTo_44 (Nat.le_of_ble_eq_true rfl) ?_
          refine E_iload dX12_reckonsTo_46 rfl ?_
          refine E_ic (nI 1) dX12_reckonsTo_48 (by decide) ?_
          refine E_iadd dX12_reckonsTo_49 ?_
          refine E.top (nI_add pc 1) ?_
          refine E_istore dX12_reckonsTo_50 (Nat.le_of_ble_eq_true rfl) ?_
          refine E_iload dX12_reckonsTo_52 rfl ?_
          refine E_zN_eq (a := 6) (tgt := 63) dX12_reckonsTo_54 (by decide) (by decide) (fun cw54 => absurd cw54 (by omega)) (fun cw54 => ?_)
          refine E_iload dX12_reckonsTo_57 rfl ?_
          refine E_ic (nI 1) dX12_reckonsTo_59 (by decide) ?_
          refine E_cN_ne (a := 6) (b := 1) (tgt := 93) dX12_reckonsTo_60 (by decide) (by decide) (by decide) (fun cw60 => ?_) (fun cw60 => absurd cw60 (by omega))
          refine E_iload dX12_reckonsTo_93 rfl ?_
          refine E_bp (nI 10) dX12_reckonsTo_95 (by decide) ?_
          refine E_cN_ne (a := 6) (b := 10) (tgt := 121) dX12_reckonsTo_97 (by decide) (by decide) (by decide) (fun cw97 => ?_) (fun cw97 => absurd cw97 (by omega))
          refine E_iload dX12_reckonsTo_121 rfl ?_
          refine E_bp (nI 11) dX12_reckonsTo_123 (by decide) ?_
          refine E_cN_eq (a := 6) (b := 11) (tgt := 135) dX12_reckonsTo_125 (by decide) (by decide) (by decide) (fun cw125 => absurd cw125 (by omega)) (fun cw125 => ?_)
          refine E_iload dX12_reckonsTo_128 rfl ?_
          refine E_bp (nI 12) dX12_reckonsTo_130 (by decide) ?_
          refine E_cN_ne (a := 6) (b := 12) (tgt := 175) dX12_reckonsTo_132 (by decide) (by decide) (by decide) (fun cw132 => ?_) (fun cw132 => absurd cw132 (by omega))
          refine E_iload_n dX12_reckonsTo_175 rfl ?_
          refine E_ic (nI 1) dX12_reckonsTo_176 (by decide) ?_
          refine E_isub dX12_reckonsTo_177 ?_
          refine E.top (pk_sub (a := s.length + 2) (b := 1) (by omega)) ?_
          refine E.top (congrArg nI (show s.length + 2 - 1 = s.length + 1 by omega)) ?_
          refine E_istore_n dX12_reckonsTo_178 (Nat.le_of_ble_eq_true rfl) ?_
          refine E_iload dX12_reckonsTo_179 rfl ?_
          refine E_ic (nI 5) dX12_reckonsTo_181 (by decide) ?_
          refine E_cN_eq (a := 6) (b := 5) (tgt := 192) dX12_reckonsTo_182 (by decide) (by decide) (by decide) (fun cw182 => absurd cw182 (by omega)) (fun cw182 => ?_)
          refine E_iload dX12_reckonsTo_185 rfl ?_
          refine E_bp (nI 6) dX12_reckonsTo_187 (by decide) ?_
          refine E_cN_ne (a := 6) (b := 6) (tgt := 203) dX12_reckonsTo_189 (by decide) (by decide) (by decide) (fun cw189 => absurd cw189 (by omega)) (fun cw189 => ?_)
          refine E_aload_n dX12_reckonsTo_192 rfl ?_
          refine E_getR dX12_reckonsTo_193 f_X12_65 rfl (Nat.lt_of_lt_of_le (by decide) hN) rfl (hR _ _ _ rfl) ?_
          refine E_iload_n dX12_reckonsTo_196 rfl ?_
          refine E_ialdN dX12_reckonsTo_197 rfl (Nat.lt_of_lt_of_le (by decide) hN) (by omega) ?_
          refine E.top (hsk.1) ?_
          refine E_if_ne (tgt := 203) dX12_reckonsTo_198 (by decide) (fun cw198 => ?_) (fun cw198 => by first | exact absurd cw198 (hy) | exact absurd (hy) cw198)
          refine E_aload_n dX12_reckonsTo_203 rfl ?_
          refine E_getR dX12_reckonsTo_204 f_X12_65 rfl (Nat.lt_of_lt_of_le (by decide) hN) rfl (hR _ _ _ rfl) ?_
          refine E_iload_n dX12_reckonsTo_207 rfl ?_
          refine E_ic (nI 1) dX12_reckonsTo_208 (by decide) ?_
          refine E_isub dX12_reckonsTo_209 ?_
          refine E.top (pk_sub (a := s.length + 1) (b := 1) (by omega)) ?_
          refine E.top (congrArg nI (Nat.add_sub_cancel (n := s.length) (m := 1))) ?_
          refine E_iload dX12_reckonsTo_210 rfl ?_
          refine E_aload_n dX12_reckonsTo_212 rfl ?_
          refine E_getR dX12_reckonsTo_213 f_X12_65 rfl (Nat.lt_of_lt_of_le (by decide) hN) rfl (hR _ _ _ rfl) ?_
          refine E_iload_n dX12_reckonsTo_216 rfl ?_
          refine E_ic (nI 1) dX12_reckonsTo_217 (by decide) ?_
          refine E_isub dX12_reckonsTo_218 ?_
          refine E.top (pk_sub (a := s.length + 1) (b := 1) (by omega)) ?_
          refine E.top (congrArg nI (Nat.add_sub_cancel (n := s.length) (m := 1))) ?_
          refine E_ialdN dX12_reckonsTo_219 rfl (Nat.lt_of_lt_of_le (by decide) hN) (by omega) ?_
          refine E.top (hsk.2.1) ?_
          refine E_aload_n dX12_reckonsTo_220 rfl ?_
          refine E_getR dX12_reckonsTo_221 f_X12_65 rfl (Nat.lt_of_lt_of_le (by decide) hN) rfl (hR _ _ _ rfl) ?_
          refine E_iload_n dX12_reckonsTo_224 rfl ?_
          refine E_ialdN dX12_reckonsTo_225 rfl (Nat.lt_of_lt_of_le (by decide) hN) (by omega) ?_
          refine E.top (hsk.1) ?_
          refine E_callS (As := [_, _, _]) (kc' := 0) (ks' := 0) (kc := 0) (ks := 0) dX12_reckonsTo_226 ok_X12_reckon w_X12_234 st_X12_reckon rfl rfl rfl (Nat.le_of_ble_eq_true rfl) (Nat.le_of_ble_eq_true rfl) (Nat.le_refl _) (m_reckon6 hy ?_)
          refine E_iastN dX12_reckonsTo_229 rfl (Nat.lt_of_lt_of_le (by decide) hN) (by omega) ?_
          refine E_goto (tgt := 16) dX12_reckonsTo_230 (by decide) ?_
          refine E.mask [true, true, true, true, true, true, false, false] ?_
          exact ih (pc + 1) (rkn 6 x y :: s) _ h2 (fun i hi => (congrFun (up2_o I 133 _ _ 128 (by decide)) i).trans (hcode i hi)) (fun j hj => (congrFun (up2_o I 133 _ _ 134 (by decide)) j).trans (hfa j hj)) (hsk.2.2.push _) (by omega) (by show s.length + 1 ≤ 32; omega) (fun I2 f2 => hQ I2 (fun x hx => (f2 x hx).trans (up2_o I 133 _ _ x hx)))
      · -- 7
        obtain ⟨y, x, s, rfl, h2⟩ := ev_7 cp ho h
        have hl2 : s.length + 2 ≤ 32 := hlen
        refine E_iload dX12_reckonsTo_16 rfl ?_
        refine E_iload_n dX12_reckonsTo_18 rfl ?_
        refine E_cN_ge (a := pc) (b := to) (tgt := 233) dX12_reckonsTo_19 (by omega) (by omega) (by decide) (fun cw19 => absurd cw19 (by omega)) (fun cw19 => ?_)
        refine E_aload_n dX12_reckonsTo_22 rfl ?_
        refine E_getR dX12_reckonsTo_23 f_X12_50 rfl (Nat.lt_of_lt_of_le (by decide) hN) rfl (hR _ _ _ rfl) ?_
        refine E_iload dX12_reckonsTo_26 rfl ?_
        refine E_ialdN dX12_reckonsTo_28 rfl (Nat.lt_of_lt_of_le (by decide) hN) (by omega) ?_
        refine E.top ((hcode pc (by omega)).trans (congrArg (fun z => nI (1048576 * z + (code pc).2)) ho)) ?_
        refine E_ldc (nI 1048576) dX12_reckonsTo_29 k_X12_163 ?_
        refine E_idiv dX12_reckonsTo_31 (by decide) ?_
        refine E.top (pk_div (a := 1048576 * 7 + (code pc).2) (d := 1048576) (by omega) (by decide) (by decide)) ?_
        refine E.top (congrArg nI (show (1048576 * 7 + (code pc).2) / 1048576 = 7 by omega)) ?_
        refine E_istore dX12_reckonsTo_32 (Nat.le_of_ble_eq_true rfl) ?_
        refine E_aload_n dX12_reckonsTo_34 rfl ?_
        refine E_getR dX12_reckonsTo_35 f_X12_50 rfl (Nat.lt_of_lt_of_le (by decide) hN) rfl (hR _ _ _ rfl) ?_
        refine E_iload dX12_reckonsTo_38 rfl ?_
        refine E_ialdN dX12_reckonsTo_40 rfl (Nat.lt_of_lt_of_le (by decide) hN) (by omega) ?_
        refine E.top ((hcode pc (by omega)).trans (congrArg (fun z => nI (1048576 * z + (code pc).2)) ho)) ?_
        refine E_ldc (nI 1048576) dX12_reckonsTo_41 k_X12_163 ?_
        refine E_irem dX12_reckonsTo_43 (by decide) ?_
        refine E.top (pk_rem (a := 1048576 * 7 + (code pc).2) (d := 1048576) (by omega) (by decide) (by decide)) ?_
        refine E.top (congrArg nI (show (1048576 * 7 + (code pc).2) % 1048576 = (code pc).2 by omega)) ?_
        refine E_istore dX12_reckonsTo_44 (Nat.le_of_ble_eq_true rfl) ?_
        refine E_iload dX12_reckonsTo_46 rfl ?_
        refine E_ic (nI 1) dX12_reckonsTo_48 (by decide) ?_
        refine E_iadd dX12_reckonsTo_49 ?_
        refine E.top (nI_add pc 1) ?_
        refine E_istore dX12_reckonsTo_50 (Nat.le_of_ble_eq_true rfl) ?_
        refine E_iload dX12_reckonsTo_52 rfl ?_
        refine E_zN_eq (a := 7) (tgt := 63) dX12_reckonsTo_54 (by decide) (by decide) (fun cw54 => absurd cw54 (by omega)) (fun cw54 => ?_)
        refine E_iload dX12_reckonsTo_57 rfl ?_
        refine E_ic (nI 1) dX12_reckonsTo_59 (by decide) ?_
        refine E_cN_ne (a := 7) (b := 1) (tgt := 93) dX12_reckonsTo_60 (by decide) (by decide) (by decide) (fun cw60 => ?_) (fun cw60 => absurd cw60 (by omega))
        refine E_iload dX12_reckonsTo_93 rfl ?_
        refine E_bp (nI 10) dX12_reckonsTo_95 (by decide) ?_
        refine E_cN_ne (a := 7) (b := 10) (tgt := 121) dX12_reckonsTo_97 (by decide) (by decide) (by decide) (fun cw97 => ?_) (fun cw97 => absurd cw97 (by omega))
        refine E_iload dX12_reckonsTo_121 rfl ?_
        refine E_bp (nI 11) dX12_reckonsTo_123 (by decide) ?_
        refine E_cN_eq (a := 7) (b := 11) (tgt := 135) dX12_reckonsTo_125 (by decide) (by decide) (by decide) (fun cw125 => absurd cw125 (by omega)) (fun cw125 => ?_)
        refine E_iload dX12_reckonsTo_128 rfl ?_
        refine E_bp (nI 12) dX12_reckonsTo_130 (by decide) ?_
        refine E_cN_ne (a := 7) (b := 12) (tgt := 175) dX12_reckonsTo_132 (by decide) (by decide) (by decide) (fun cw132 => ?_) (fun cw132 => absurd cw132 (by omega))
        refine E_iload_n dX12_reckonsTo_175 rfl ?_
        refine E_ic (nI 1) dX12_reckonsTo_176 (by decide) ?_
        refine E_isub dX12_reckonsTo_177 ?_
        refine E.top (pk_sub (a := s.length + 2) (b := 1) (by omega)) ?_
        refine E.top (congrArg nI (show s.length + 2 - 1 = s.length + 1 by omega)) ?_
        refine E_istore_n dX12_reckonsTo_178 (Nat.le_of_ble_eq_true rfl) ?_
        refine E_iload dX12_reckonsTo_179 rfl ?_
        refine E_ic (nI 5) dX12_reckonsTo_181 (by decide) ?_
        refine E_cN_eq (a := 7) (b := 5) (tgt := 192) dX12_reckonsTo_182 (by decide) (by decide) (by decide) (fun cw182 => absurd cw182 (by omega)) (fun cw182 => ?_)
        refine E_iload dX12_reckonsTo_185 rfl ?_
        refine E_bp (nI 6) dX12_reckonsTo_187 (by decide) ?_
        refine E_cN_ne (a := 7) (b := 6) (tgt := 203) dX12_reckonsTo_189 (by decide) (by decide) (by decide) (fun cw189 => ?_) (fun cw189 => absurd cw189 (by omega))
        refine E_aload_n dX12_reckonsTo_203 rfl ?_
        refine E_getR dX12_reckonsTo_204 f_X12_65 rfl (Nat.lt_of_lt_of_le (by decide) hN) rfl (hR _ _ _ rfl) ?_
        refine E_iload_n dX12_reckonsTo_207 rfl ?_
        refine E_ic (nI 1) dX12_reckonsTo_208 (by decide) ?_
        refine E_isub dX12_reckonsTo_209 ?_
        refine E.top (pk_sub (a := s.length + 1) (b := 1) (by omega)) ?_
        refine E.top (congrArg nI (Nat.add_sub_cancel (n := s.length) (m := 1))) ?_
        refine E_iload dX12_reckonsTo_210 rfl ?_
        refine E_aload_n dX12_reckonsTo_212 rfl ?_
        refine E_getR dX12_reckonsTo_213 f_X12_65 rfl (Nat.lt_of_lt_of_le (by decide) hN) rfl (hR _ _ _ rfl) ?_
        refine E_iload_n dX12_reckonsTo_216 rfl ?_
        refine E_ic (nI 1) dX12_reckonsTo_217 (by decide) ?_
        refine E_isub dX12_reckonsTo_218 ?_
        refine E.top (pk_sub (a := s.length + 1) (b := 1) (by omega)) ?_
        refine E.top (congrArg nI (Nat.add_sub_cancel (n := s.length) (m := 1))) ?_
        refine E_ialdN dX12_reckonsTo_219 rfl (Nat.lt_of_lt_of_le (by decide) hN) (by omega) ?_
        refine E.top (hsk.2.1) ?_
        refine E_aload_n dX12_reckonsTo_220 rfl ?_
        refine E_getR dX12_reckonsTo_221 f_X12_65 rfl (Nat.lt_of_lt_of_le (by decide) hN) rfl (hR _ _ _ rfl) ?_
        refine E_iload_n dX12_reckonsTo_224 rfl ?_
        refine E_ialdN dX12_reckonsTo_225 rfl (Nat.lt_of_lt_of_le (by decide) hN) (by omega) ?_
        refine E.top (hsk.1) ?_
        refine E_callS (As := [_, _, _]) (kc' := 0) (ks' := 0) (kc := 0) (ks := 0) dX12_reckonsTo_226 ok_X12_reckon w_X12_234 st_X12_reckon rfl rfl rfl (Nat.le_of_ble_eq_true rfl) (Nat.le_of_ble_eq_true rfl) (Nat.le_refl _) (m_reckon7 ?_)
        refine E_iastN dX12_reckonsTo_229 rfl (Nat.lt_of_lt_of_le (by decide) hN) (by omega) ?_
        refine E_goto (tgt := 16) dX12_reckonsTo_230 (by decide) ?_
        refine E.mask [true, true, true, true, true, true, false, false] ?_
        exact ih (pc + 1) (rkn 7 x y :: s) _ h2 (fun i hi => (congrFun (up2_o I 133 _ _ 128 (by decide)) i).trans (hcode i hi)) (fun j hj => (congrFun (up2_o I 133 _ _ 134 (by decide)) j).trans (hfa j hj)) (hsk.2.2.push _) (by omega) (by show s.length + 1 ≤ 32; omega) (fun I2 f2 => hQ I2 (fun x hx => (f2 x hx).trans (up2_o I 133 _ _ x hx)))
      · -- 8
        obtain ⟨y, x, s, rfl, h2⟩ := ev_8 cp ho h
        have hl2 : s.length + 2 ≤ 32 := hlen
        refine E_iload dX12_reckonsTo_16 rfl ?_
        refine E_iload_n dX12_reckonsTo_18 rfl ?_
        refine E_cN_ge (a := pc) (b := to) (tgt := 233) dX12_reckonsTo_19 (by omega) (by omega) (by decide) (fun cw19 => absurd cw19 (by omega)) (fun cw19 => ?_)
        refine E_aload_n dX12_reckonsTo_22 rfl ?_
        refine E_getR dX12_reckonsTo_23 f_X12_50 rfl (Nat.lt_of_lt_of_le (by decide) hN) rfl (hR _ _ _ rfl) ?_
        refine E_iload dX12_reckonsTo_26 rfl ?_
        refine E_ialdN dX12_reckonsTo_28 rfl (Nat.lt_of_lt_of_le (by decide) hN) (by omega) ?_
        refine E.top ((hcode pc (by omega)).trans (congrArg (fun z => nI (1048576 * z + (code pc).2)) ho)) ?_
        refine E_ldc (nI 1048576) dX12_reckonsTo_29 k_X12_163 ?_
        refine E_idiv dX12_reckonsTo_31 (by decide) ?_
        refine E.top (pk_div (a := 1048576 * 8 + (code pc).2) (d := 1048576) (by omega) (by decide) (by decide)) ?_
        refine E.top (congrArg nI (show (1048576 * 8 + (code pc).2) / 1048576 = 8 by omega)) ?_
        refine E_istore dX12_reckonsTo_32 (Nat.le_of_ble_eq_true rfl) ?_
        refine E_aload_n dX12_reckonsTo_34 rfl ?_
        refine E_getR dX12_reckonsTo_35 f_X12_50 rfl (Nat.lt_of_lt_of_le (by decide) hN) rfl (hR _ _ _ rfl) ?_
        refine E_iload dX12_reckonsTo_38 rfl ?_
        refine E_ialdN dX12_reckonsTo_40 rfl (Nat.lt_of_lt_of_le (by decide) hN) (by omega) ?_
        refine E.top ((hcode pc (by omega)).trans (congrArg (fun z => nI (1048576 * z + (code pc).2)) ho)) ?_
        refine E_ldc (nI 1048576) dX12_reckonsTo_41 k_X12_163 ?_
        refine E_irem dX12_reckonsTo_43 (by decide) ?_
        refine E.top (pk_rem (a := 1048576 * 8 + (code pc).2) (d := 1048576) (by omega) (by decide) (by decide)) ?_
        refine E.top (congrArg nI (show (1048576 * 8 + (code pc).2) % 1048576 = (code pc).2 by omega)) ?_
        refine E_istore dX12_reckonsTo_44 (Nat.le_of_ble_eq_true rfl) ?_
        refine E_iload dX12_reckonsTo_46 rfl ?_
        refine E_ic (nI 1) dX12_reckonsTo_48 (by decide) ?_
        refine E_iadd dX12_reckonsTo_49 ?_
        refine E.top (nI_add pc 1) ?_
        refine E_istore dX12_reckonsTo_50 (Nat.le_of_ble_eq_true rfl) ?_
        refine E_iload dX12_reckonsTo_52 rfl ?_
        refine E_zN_eq (a := 8) (tgt := 63) dX12_reckonsTo_54 (by decide) (by decide) (fun cw54 => absurd cw54 (by omega)) (fun cw54 => ?_)
        refine E_iload dX12_reckonsTo_57 rfl ?_
        refine E_ic (nI 1) dX12_reckonsTo_59 (by decide) ?_
        refine E_cN_ne (a := 8) (b := 1) (tgt := 93) dX12_reckonsTo_60 (by decide) (by decide) (by decide) (fun cw60 => ?_) (fun cw60 => absurd cw60 (by omega))
        refine E_iload dX12_reckonsTo_93 rfl ?_
        refine E_bp (nI 10) dX12_reckonsTo_95 (by decide) ?_
        refine E_cN_ne (a := 8) (b := 10) (tgt := 121) dX12_reckonsTo_97 (by decide) (by decide) (by decide) (fun cw97 => ?_) (fun cw97 => absurd cw97 (by omega))
        refine E_iload dX12_reckonsTo_121 rfl ?_
        refine E_bp (nI 11) dX12_reckonsTo_123 (by decide) ?_
        refine E_cN_eq (a := 8) (b := 11) (tgt := 135) dX12_reckonsTo_125 (by decide) (by decide) (by decide) (fun cw125 => absurd cw125 (by omega)) (fun cw125 => ?_)
        refine E_iload dX12_reckonsTo_128 rfl ?_
        refine E_bp (nI 12) dX12_reckonsTo_130 (by decide) ?_
        refine E_cN_ne (a := 8) (b := 12) (tgt := 175) dX12_reckonsTo_132 (by decide) (by decide) (by decide) (fun cw132 => ?_) (fun cw132 => absurd cw132 (by omega))
        refine E_iload_n dX12_reckonsTo_175 rfl ?_
        refine E_ic (nI 1) dX12_reckonsTo_176 (by decide) ?_
        refine E_isub dX12_reckonsTo_177 ?_
        refine E.top (pk_sub (a := s.length + 2) (b := 1) (by omega)) ?_
        refine E.top (congrArg nI (show s.length + 2 - 1 = s.length + 1 by omega)) ?_
        refine E_istore_n dX12_reckonsTo_178 (Nat.le_of_ble_eq_true rfl) ?_
        refine E_iload dX12_reckonsTo_179 rfl ?_
        refine E_ic (nI 5) dX12_reckonsTo_181 (by decide) ?_
        refine E_cN_eq (a := 8) (b := 5) (tgt := 192) dX12_reckonsTo_182 (by decide) (by decide) (by decide) (fun cw182 => absurd cw182 (by omega)) (fun cw182 => ?_)
        refine E_iload dX12_reckonsTo_185 rfl ?_
        refine E_bp (nI 6) dX12_reckonsTo_187 (by decide) ?_
        refine E_cN_ne (a := 8) (b := 6) (tgt := 203) dX12_reckonsTo_189 (by decide) (by decide) (by decide) (fun cw189 => ?_) (fun cw189 => absurd cw189 (by omega))
        refine E_aload_n dX12_reckonsTo_203 rfl ?_
        refine E_getR dX12_reckonsTo_204 f_X12_65 rfl (Nat.lt_of_lt_of_le (by decide) hN) rfl (hR _ _ _ rfl) ?_
        refine E_iload_n dX12_reckonsTo_207 rfl ?_
        refine E_ic (nI 1) dX12_reckonsTo_208 (by decide) ?_
        refine E_isub dX12_reckonsTo_209 ?_
        refine E.top (pk_sub (a := s.length + 1) (b := 1) (by omega)) ?_
        refine E.top (congrArg nI (Nat.add_sub_cancel (n := s.length) (m := 1))) ?_
        refine E_iload dX12_reckonsTo_210 rfl ?_
        refine E_aload_n dX12_reckonsTo_212 rfl ?_
        refine E_getR dX12_reckonsTo_213 f_X12_65 rfl (Nat.lt_of_lt_of_le (by decide) hN) rfl (hR _ _ _ rfl) ?_
        refine E_iload_n dX12_reckonsTo_216 rfl ?_
        refine E_ic (nI 1) dX12_reckonsTo_217 (by decide) ?_
        refine E_isub dX12_reckonsTo_218 ?_
        refine E.top (pk_sub (a := s.length + 1) (b := 1) (by omega)) ?_
        refine E.top (congrArg nI (Nat.add_sub_cancel (n := s.length) (m := 1))) ?_
        refine E_ialdN dX12_reckonsTo_219 rfl (Nat.lt_of_lt_of_le (by decide) hN) (by omega) ?_
        refine E.top (hsk.2.1) ?_
        refine E_aload_n dX12_reckonsTo_220 rfl ?_
        refine E_getR dX12_reckonsTo_221 f_X12_65 rfl (Nat.lt_of_lt_of_le (by decide) hN) rfl (hR _ _ _ rfl) ?_
        refine E_iload_n dX12_reckonsTo_224 rfl ?_
        refine E_ialdN dX12_reckonsTo_225 rfl (Nat.lt_of_lt_of_le (by decide) hN) (by omega) ?_
        refine E.top (hsk.1) ?_
        refine E_callS (As := [_, _, _]) (kc' := 0) (ks' := 0) (kc := 0) (ks := 0) dX12_reckonsTo_226 ok_X12_reckon w_X12_234 st_X12_reckon rfl rfl rfl (Nat.le_of_ble_eq_true rfl) (Nat.le_of_ble_eq_true rfl) (Nat.le_refl _) (m_reckon8 ?_)
        refine E_iastN dX12_reckonsTo_229 rfl (Nat.lt_of_lt_of_le (by decide) hN) (by omega) ?_
        refine E_goto (tgt := 16) dX12_reckonsTo_230 (by decide) ?_
        refine E.mask [true, true, true, true, true, true, false, false] ?_
        exact ih (pc + 1) (rkn 8 x y :: s) _ h2 (fun i hi => (congrFun (up2_o I 133 _ _ 128 (by decide)) i).trans (hcode i hi)) (fun j hj => (congrFun (up2_o I 133 _ _ 134 (by decide)) j).trans (hfa j hj)) (hsk.2.2.push _) (by omega) (by show s.length + 1 ≤ 32; omega) (fun I2 f2 => hQ I2 (fun x hx => (f2 x hx).trans (up2_o I 133 _ _ x hx)))
      · -- 9
        obtain ⟨y, x, s, rfl, h2⟩ := ev_9 cp ho h
        have hl2 : s.length + 2 ≤ 32 := hlen
        refine E_iload dX12_reckonsTo_16 rfl ?_
        refine E_iload_n dX12_reckonsTo_18 rfl ?_
        refine E_cN_ge (a := pc) (b := to) (tgt := 233) dX12_reckonsTo_19 (by omega) (by omega) (by decide) (fun cw19 => absurd cw19 (by omega)) (fun cw19 => ?_)
        refine E_aload_n dX12_reckonsTo_22 rfl ?_
        refine E_getR dX12_reckonsTo_23 f_X12_50 rfl (Nat.lt_of_lt_of_le (by decide) hN) rfl (hR _ _ _ rfl) ?_
        refine E_iload dX12_reckonsTo_26 rfl ?_
        refine E_ialdN dX12_reckonsTo_28 rfl (Nat.lt_of_lt_of_le (by decide) hN) (by omega) ?_
        refine E.top ((hcode pc (by omega)).trans (congrArg (fun z => nI (1048576 * z + (code pc).2)) ho)) ?_
        refine E_ldc (nI 1048576) dX12_reckonsTo_29 k_X12_163 ?_
        refine E_idiv dX12_reckonsTo_31 (by decide) ?_
        refine E.top (pk_div (a := 1048576 * 9 + (code pc).2) (d := 1048576) (by omega) (by decide) (by decide)) ?_
        refine E.top (congrArg nI (show (1048576 * 9 + (code pc).2) / 1048576 = 9 by omega)) ?_
        refine E_istore dX12_reckonsTo_32 (Nat.le_of_ble_eq_true rfl) ?_
        refine E_aload_n dX12_reckonsTo_34 rfl ?_
        refine E_getR dX12_reckonsTo_35 f_X12_50 rfl (Nat.lt_of_lt_of_le (by decide) hN) rfl (hR _ _ _ rfl) ?_
        refine E_iload dX12_reckonsTo_38 rfl ?_
        refine E_ialdN dX12_reckonsTo_40 rfl (Nat.lt_of_lt_of_le (by decide) hN) (by omega) ?_
        refine E.top ((hcode pc (by omega)).trans (congrArg (fun z => nI (1048576 * z + (code pc).2)) ho)) ?_
        refine E_ldc (nI 1048576) dX12_reckonsTo_41 k_X12_163 ?_
        refine E_irem dX12_reckonsTo_43 (by decide) ?_
        refine E.top (pk_rem (a := 1048576 * 9 + (code pc).2) (d := 1048576) (by omega) (by decide) (by decide)) ?_
        refine E.top (congrArg nI (show (1048576 * 9 + (code pc).2) % 1048576 = (code pc).2 by omega)) ?_
        refine E_istore dX12_reckonsTo_44 (Nat.le_of_ble_eq_true rfl) ?_
        refine E_iload dX12_reckonsTo_46 rfl ?_
        refine E_ic (nI 1) dX12_reckonsTo_48 (by decide) ?_
        refine E_iadd dX12_reckonsTo_49 ?_
        refine E.top (nI_add pc 1) ?_
        refine E_istore dX12_reckonsTo_50 (Nat.le_of_ble_eq_true rfl) ?_
        refine E_iload dX12_reckonsTo_52 rfl ?_
        refine E_zN_eq (a := 9) (tgt := 63) dX12_reckonsTo_54 (by decide) (by decide) (fun cw54 => absurd cw54 (by omega)) (fun cw54 => ?_)
        refine E_iload dX12_reckonsTo_57 rfl ?_
        refine E_ic (nI 1) dX12_reckonsTo_59 (by decide) ?_
        refine E_cN_ne (a := 9) (b := 1) (tgt := 93) dX12_reckonsTo_60 (by decide) (by decide) (by decide) (fun cw60 => ?_) (fun cw60 => absurd cw60 (by omega))
        refine E_iload dX12_reckonsTo_93 rfl ?_
        refine E_bp (nI 10) dX12_reckonsTo_95 (by decide) ?_
        refine E_cN_ne (a := 9) (b := 10) (tgt := 121) dX12_reckonsTo_97 (by decide) (by decide) (by decide) (fun cw97 => ?_) (fun cw97 => absurd cw97 (by omega))
        refine E_iload dX12_reckonsTo_121 rfl ?_
        refine E_bp (nI 11) dX12_reckonsTo_123 (by decide) ?_
        refine E_cN_eq (a := 9) (b := 11) (tgt := 135) dX12_reckonsTo_125 (by decide) (by decide) (by decide) (fun cw125 => absurd cw125 (by omega)) (fun cw125 => ?_)
        refine E_iload dX12_reckonsTo_128 rfl ?_
        refine E_bp (nI 12) dX12_reckonsTo_130 (by decide) ?_
        refine E_cN_ne (a := 9) (b := 12) (tgt := 175) dX12_reckonsTo_132 (by decide) (by decide) (by decide) (fun cw132 => ?_) (fun cw132 => absurd cw132 (by omega))
        refine E_iload_n dX12_reckonsTo_175 rfl ?_
        refine E_ic (nI 1) dX12_reckonsTo_176 (by decide) ?_
        refine E_isub dX12_reckonsTo_177 ?_
        refine E.top (pk_sub (a := s.length + 2) (b := 1) (by omega)) ?_
        refine E.top (congrArg nI (show s.length + 2 - 1 = s.length + 1 by omega)) ?_
        refine E_istore_n dX12_reckonsTo_178 (Nat.le_of_ble_eq_true rfl) ?_
        refine E_iload dX12_reckonsTo_179 rfl ?_
        refine E_ic (nI 5) dX12_reckonsTo_181 (by decide) ?_
        refine E_cN_eq (a := 9) (b := 5) (tgt := 192) dX12_reckonsTo_182 (by decide) (by decide) (by decide) (fun cw182 => absurd cw182 (by omega)) (fun cw182 => ?_)
        refine E_iload dX12_reckonsTo_185 rfl ?_
        refine E_bp (nI 6) dX12_reckonsTo_187 (by decide) ?_
        refine E_cN_ne (a := 9) (b := 6) (tgt := 203) dX12_reckonsTo_189 (by decide) (by decide) (by decide) (fun cw189 => ?_) (fun cw189 => absurd cw189 (by omega))
        refine E_aload_n dX12_reckonsTo_203 rfl ?_
        refine E_getR dX12_reckonsTo_204 f_X12_65 rfl (Nat.lt_of_lt_of_le (by decide) hN) rfl (hR _ _ _ rfl) ?_
        refine E_iload_n dX12_reckonsTo_207 rfl ?_
        refine E_ic (nI 1) dX12_reckonsTo_208 (by decide) ?_
        refine E_isub dX12_reckonsTo_209 ?_
        refine E.top (pk_sub (a := s.length + 1) (b := 1) (by omega)) ?_
        refine E.top (congrArg nI (Nat.add_sub_cancel (n := s.length) (m := 1))) ?_
        refine E_iload dX12_reckonsTo_210 rfl ?_
        refine E_aload_n dX12_reckonsTo_212 rfl ?_
        refine E_getR dX12_reckonsTo_213 f_X12_65 rfl (Nat.lt_of_lt_of_le (by decide) hN) rfl (hR _ _ _ rfl) ?_
        refine E_iload_n dX12_reckonsTo_216 rfl ?_
        refine E_ic (nI 1) dX12_reckonsTo_217 (by decide) ?_
        refine E_isub dX12_reckonsTo_218 ?_
        refine E.top (pk_sub (a := s.length + 1) (b := 1) (by omega)) ?_
        refine E.top (congrArg nI (Nat.add_sub_cancel (n := s.length) (m := 1))) ?_
        refine E_ialdN dX12_reckonsTo_219 rfl (Nat.lt_of_lt_of_le (by decide) hN) (by omega) ?_
        refine E.top (hsk.2.1) ?_
        refine E_aload_n dX12_reckonsTo_220 rfl ?_
        refine E_getR dX12_reckonsTo_221 f_X12_65 rfl (Nat.lt_of_lt_of_le (by decide) hN) rfl (hR _ _ _ rfl) ?_
        refine E_iload_n dX12_reckonsTo_224 rfl ?_
        refine E_ialdN dX12_reckonsTo_225 rfl (Nat.lt_of_lt_of_le (by decide) hN) (by omega) ?_
        refine E.top (hsk.1) ?_
        refine E_callS (As := [_, _, _]) (kc' := 0) (ks' := 0) (kc := 0) (ks := 0) dX12_reckonsTo_226 ok_X12_reckon w_X12_234 st_X12_reckon rfl rfl rfl (Nat.le_of_ble_eq_true rfl) (Nat.le_of_ble_eq_true rfl) (Nat.le_refl _) (m_reckon9 ?_)
        refine E_iastN dX12_reckonsTo_229 rfl (Nat.lt_of_lt_of_le (by decide) hN) (by omega) ?_
        refine E_goto (tgt := 16) dX12_reckonsTo_230 (by decide) ?_
        refine E.mask [true, true, true, true, true, true, false, false] ?_
        exact ih (pc + 1) (rkn 9 x y :: s) _ h2 (fun i hi => (congrFun (up2_o I 133 _ _ 128 (by decide)) i).trans (hcode i hi)) (fun j hj => (congrFun (up2_o I 133 _ _ 134 (by decide)) j).trans (hfa j hj)) (hsk.2.2.push _) (by omega) (by show s.length + 1 ≤ 32; omega) (fun I2 f2 => hQ I2 (fun x hx => (f2 x hx).trans (up2_o I 133 _ _ x hx)))
      · -- 10
        obtain ⟨s, ⟨rfl, h2⟩ | ⟨rfl, h2⟩⟩ := ev_10 cp ho h
        · skip
          have hl2 : s.length + 1 ≤ 32 := hlen
          refine E_iload dX12_reckonsTo_16 rfl ?_
          refine E_iload_n dX12_reckonsTo_18 rfl ?_
          refine E_cN_ge (a := pc) (b := to) (tgt := 233) dX12_reckonsTo_19 (by omega) (by omega) (by decide) (fun cw19 => absurd cw19 (by omega)) (fun cw19 => ?_)
          refine E_aload_n dX12_reckonsTo_22 rfl ?_
          refine E_getR dX12_reckonsTo_23 f_X12_50 rfl (Nat.lt_of_lt_of_le (by decide) hN) rfl (hR _ _ _ rfl) ?_
          refine E_iload dX12_reckonsTo_26 rfl ?_
          refine E_ialdN dX12_reckonsTo_28 rfl (Nat.lt_of_lt_of_le (by decide) hN) (by omega) ?_
          refine E.top ((hcode pc (by omega)).trans (congrArg (fun z => nI (1048576 * z + (code pc).2)) ho)) ?_
          refine E_ldc (nI 1048576) dX12_reckonsTo_29 k_X12_163 ?_
          refine E_idiv dX12_reckonsTo_31 (by decide) ?_
          refine E.top (pk_div (a := 1048576 * 10 + (code pc).2) (d := 1048576) (by omega) (by decide) (by decide)) ?_
          refine E.top (congrArg nI (show (1048576 * 10 + (code pc).2) / 1048576 = 10 by omega)) ?_
          refine E_istore dX12_reckonsTo_32 (Nat.le_of_ble_eq_true rfl) ?_
          refine E_aload_n dX12_reckonsTo_34 rfl ?_
          refine E_getR dX12_reckonsTo_35 f_X12_50 rfl (Nat.lt_of_lt_of_le (by decide) hN) rfl (hR _ _ _ rfl) ?_
          refine E_iload dX12_reckonsTo_38 rfl ?_
          refine E_ialdN dX12_reckonsTo_40 rfl (Nat.lt_of_lt_of_le (by decide) hN) (by omega) ?_
          refine E.top ((hcode pc (by omega)).trans (congrArg (fun z => nI (1048576 * z + (code pc).2)) ho)) ?_
          refine E_ldc (nI 1048576) dX12_reckonsTo_41 k_X12_163 ?_
          refine E_irem dX12_reckonsTo_43 (by decide) ?_
          refine E.top (pk_rem (a := 1048576 * 10 + (code pc).2) (d := 1048576) (by omega) (by decide) (by decide)) ?_
          refine E.top (congrArg nI (show (1048576 * 10 + (code pc).2) % 1048576 = (code pc).2 by omega)) ?_
          refine E_istore dX12_reckonsTo_44 (Nat.le_of_ble_eq_true rfl) ?_
          refine E_iload dX12_reckonsTo_46 rfl ?_
          refine E_ic (nI 1) dX12_reckonsTo_48 (by decide) ?_
          refine E_iadd dX12_reckonsTo_49 ?_
          refine E.top (nI_add pc 1) ?_
          refine E_istore dX12_reckonsTo_50 (Nat.le_of_ble_eq_true rfl) ?_
          refine E_iload dX12_reckonsTo_52 rfl ?_
          refine E_zN_eq (a := 10) (tgt := 63) dX12_reckonsTo_54 (by decide) (by decide) (fun cw54 => absurd cw54 (by omega)) (fun cw54 => ?_)
          refine E_iload dX12_reckonsTo_57 rfl ?_
          refine E_ic (nI 1) dX12_reckonsTo_59 (by decide) ?_
          refine E_cN_ne (a := 10) (b := 1) (tgt := 93) dX12_reckonsTo_60 (by decide) (by decide) (by decide) (fun cw60 => ?_) (fun cw60 => absurd cw60 (by omega))
          refine E_iload dX12_reckonsTo_93 rfl ?_
          refine E_bp (nI 10) dX12_reckonsTo_95 (by decide) ?_
          refine E_cN_ne (a := 10) (b := 10) (tgt := 121) dX12_reckonsTo_97 (by decide) (by decide) (by decide) (fun cw97 => absurd cw97 (by omega)) (fun cw97 => ?_)
          refine E_aload_n dX12_reckonsTo_100 rfl ?_
          refine E_getR dX12_reckonsTo_101 f_X12_65 rfl (Nat.lt_of_lt_of_le (by decide) hN) rfl (hR _ _ _ rfl) ?_
          refine E_iload_n dX12_reckonsTo_104 rfl ?_
          refine E_ic (nI 1) dX12_reckonsTo_105 (by decide) ?_
          refine E_isub dX12_reckonsTo_106 ?_
          refine E.top (pk_sub (a := s.length + 1) (b := 1) (by omega)) ?_
          refine E.top (congrArg nI (Nat.add_sub_cancel (n := s.length) (m := 1))) ?_
          refine E_ic (nI 1) dX12_reckonsTo_107 (by decide) ?_
          refine E_aload_n dX12_reckonsTo_108 rfl ?_
          refine E_getR dX12_reckonsTo_109 f_X12_65 rfl (Nat.lt_of_lt_of_le (by decide) hN) rfl (hR _ _ _ rfl) ?_
          refine E_iload_n dX12_reckonsTo_112 rfl ?_
          refine E_ic (nI 1) dX12_reckonsTo_113 (by decide) ?_
          refine E_isub dX12_reckonsTo_114 ?_
          refine E.top (pk_sub (a := s.length + 1) (b := 1) (by omega)) ?_
          refine E.top (congrArg nI (Nat.add_sub_cancel (n := s.length) (m := 1))) ?_
          refine E_ialdN dX12_reckonsTo_115 rfl (Nat.lt_of_lt_of_le (by decide) hN) (by omega) ?_
          refine E.top (hsk.1) ?_
          refine E_isub dX12_reckonsTo_116 ?_
          refine E.top (pk_sub (a := 1) (b := 0) (by decide)) ?_
          refine E.top ((show nI (1 - 0) = nI 1 from rfl)) ?_
          refine E_iastN dX12_reckonsTo_117 rfl (Nat.lt_of_lt_of_le (by decide) hN) (by omega) ?_
          refine E_goto (tgt := 230) dX12_reckonsTo_118 (by decide) ?_
          refine E_goto (tgt := 16) dX12_reckonsTo_230 (by decide) ?_
          refine E.mask [true, true, true, true, true, true, false, false] ?_
          exact ih (pc + 1) (1 :: s) _ h2 (fun i hi => (congrFun (up2_o I 133 _ _ 128 (by decide)) i).trans (hcode i hi)) (fun j hj => (congrFun (up2_o I 133 _ _ 134 (by decide)) j).trans (hfa j hj)) (hsk.2.push _) (by omega) hlen (fun I2 f2 => hQ I2 (fun x hx => (f2 x hx).trans (up2_o I 133 _ _ x hx)))
        · skip
          have hl2 : s.length + 1 ≤ 32 := hlen
          refine E_iload dX12_reckonsTo_16 rfl ?_
          refine E_iload_n dX12_reckonsTo_18 rfl ?_
          refine E_cN_ge (a := pc) (b := to) (tgt := 233) dX12_reckonsTo_19 (by omega) (by omega) (by decide) (fun cw19 => absurd cw19 (by omega)) (fun cw19 => ?_)
          refine E_aload_n dX12_reckonsTo_22 rfl ?_
          refine E_getR dX12_reckonsTo_23 f_X12_50 rfl (Nat.lt_of_lt_of_le (by decide) hN) rfl (hR _ _ _ rfl) ?_
          refine E_iload dX12_reckonsTo_26 rfl ?_
          refine E_ialdN dX12_reckonsTo_28 rfl (Nat.lt_of_lt_of_le (by decide) hN) (by omega) ?_
          refine E.top ((hcode pc (by omega)).trans (congrArg (fun z => nI (1048576 * z + (code pc).2)) ho)) ?_
          refine E_ldc (nI 1048576) dX12_reckonsTo_29 k_X12_163 ?_
          refine E_idiv dX12_reckonsTo_31 (by decide) ?_
          refine E.top (pk_div (a := 1048576 * 10 + (code pc).2) (d := 1048576) (by omega) (by decide) (by decide)) ?_
          refine E.top (congrArg nI (show (1048576 * 10 + (code pc).2) / 1048576 = 10 by omega)) ?_
          refine E_istore dX12_reckonsTo_32 (Nat.le_of_ble_eq_true rfl) ?_
          refine E_aload_n dX12_reckonsTo_34 rfl ?_
          refine E_getR dX12_reckonsTo_35 f_X12_50 rfl (Nat.lt_of_lt_of_le (by decide) hN) rfl (hR _ _ _ rfl) ?_
          refine E_iload dX12_reckonsTo_38 rfl ?_
          refine E_ialdN dX12_reckonsTo_40 rfl (Nat.lt_of_lt_of_le (by decide) hN) (by omega) ?_
          refine E.top ((hcode pc (by omega)).trans (congrArg (fun z => nI (1048576 * z + (code pc).2)) ho)) ?_
          refine E_ldc (nI 1048576) dX12_reckonsTo_41 k_X12_163 ?_
          refine E_irem dX12_reckonsTo_43 (by decide) ?_
          refine E.top (pk_rem (a := 1048576 * 10 + (code pc).2) (d := 1048576) (by omega) (by decide) (by decide)) ?_
          refine E.top (congrArg nI (show (1048576 * 10 + (code pc).2) % 1048576 = (code pc).2 by omega)) ?_
          refine E_istore dX12_reckonsTo_44 (Nat.le_of_ble_eq_true rfl) ?_
          refine E_iload dX12_reckonsTo_46 rfl ?_
          refine E_ic (nI 1) dX12_reckonsTo_48 (by decide) ?_
          refine E_iadd dX12_reckonsTo_49 ?_
          refine E.top (nI_add pc 1) ?_
          refine E_istore dX12_reckonsTo_50 (Nat.le_of_ble_eq_true rfl) ?_
          refine E_iload dX12_reckonsTo_52 rfl ?_
          refine E_zN_eq (a := 10) (tgt := 63) dX12_reckonsTo_54 (by decide) (by decide) (fun cw54 => absurd cw54 (by omega)) (fun cw54 => ?_)
          refine E_iload dX12_reckonsTo_57 rfl ?_
          refine E_ic (nI 1) dX12_reckonsTo_59 (by decide) ?_
          refine E_cN_ne (a := 10) (b := 1) (tgt := 93) dX12_reckonsTo_60 (by decide) (by decide) (by decide) (fun cw60 => ?_) (fun cw60 => absurd cw60 (by omega))
          refine E_iload dX12_reckonsTo_93 rfl ?_
          refine E_bp (nI 10) dX12_reckonsTo_95 (by decide) ?_
          refine E_cN_ne (a := 10) (b := 10) (tgt := 121) dX12_reckonsTo_97 (by decide) (by decide) (by decide) (fun cw97 => absurd cw97 (by omega)) (fun cw97 => ?_)
          refine E_aload_n dX12_reckonsTo_100 rfl ?_
          refine E_getR dX12_reckonsTo_101 f_X12_65 rfl (Nat.lt_of_lt_of_le (by decide) hN) rfl (hR _ _ _ rfl) ?_
          refine E_iload_n dX12_reckonsTo_104 rfl ?_
          refine E_ic (nI 1) dX12_reckonsTo_105 (by decide) ?_
          refine E_isub dX12_reckonsTo_106 ?_
          refine E.top (pk_sub (a := s.length + 1) (b := 1) (by omega)) ?_
          refine E.top (congrArg nI (Nat.add_sub_cancel (n := s.length) (m := 1))) ?_
          refine E_ic (nI 1) dX12_reckonsTo_107 (by decide) ?_
          refine E_aload_n dX12_reckonsTo_108 rfl ?_
          refine E_getR dX12_reckonsTo_109 f_X12_65 rfl (Nat.lt_of_lt_of_le (by decide) hN) rfl (hR _ _ _ rfl) ?_
          refine E_iload_n dX12_reckonsTo_112 rfl ?_
          refine E_ic (nI 1) dX12_reckonsTo_113 (by decide) ?_
          refine E_isub dX12_reckonsTo_114 ?_
          refine E.top (pk_sub (a := s.length + 1) (b := 1) (by omega)) ?_
          refine E.top (congrArg nI (Nat.add_sub_cancel (n := s.length) (m := 1))) ?_
          refine E_ialdN dX12_reckonsTo_115 rfl (Nat.lt_of_lt_of_le (by decide) hN) (by omega) ?_
          refine E.top (hsk.1) ?_
          refine E_isub dX12_reckonsTo_116 ?_
          refine E.top (pk_sub (a := 1) (b := 1) (by decide)) ?_
          refine E.top ((show nI (1 - 1) = nI 0 from rfl)) ?_
          refine E_iastN dX12_reckonsTo_117 rfl (Nat.lt_of_lt_of_le (by decide) hN) (by omega) ?_
          refine E_goto (tgt := 230) dX12_reckonsTo_118 (by decide) ?_
          refine E_goto (tgt := 16) dX12_reckonsTo_230 (by decide) ?_
          refine E.mask [true, true, true, true, true, true, false, false] ?_
          exact ih (pc + 1) (0 :: s) _ h2 (fun i hi => (congrFun (up2_o I 133 _ _ 128 (by decide)) i).trans (hcode i hi)) (fun j hj => (congrFun (up2_o I 133 _ _ 134 (by decide)) j).trans (hfa j hj)) (hsk.2.push _) (by omega) hlen (fun I2 f2 => hQ I2 (fun x hx => (f2 x hx).trans (up2_o I 133 _ _ x hx)))
      · -- 11
        obtain ⟨s, ⟨rfl, h3, h3b, h2⟩ | ⟨rfl, h2⟩⟩ := ev_11 cp ho h
        · skip
          have hl2 : s.length + 1 ≤ 32 := hlen
          refine E_iload dX12_reckonsTo_16 rfl ?_
          refine E_iload_n dX12_reckonsTo_18 rfl ?_
          refine E_cN_ge (a := pc) (b := to) (tgt := 233) dX12_reckonsTo_19 (by omega) (by omega) (by decide) (fun cw19 => absurd cw19 (by omega)) (fun cw19 => ?_)
          refine E_aload_n dX12_reckonsTo_22 rfl ?_
          refine E_getR dX12_reckonsTo_23 f_X12_50 rfl (Nat.lt_of_lt_of_le (by decide) hN) rfl (hR _ _ _ rfl) ?_
          refine E_iload dX12_reckonsTo_26 rfl ?_
          refine E_ialdN dX12_reckonsTo_28 rfl (Nat.lt_of_lt_of_le (by decide) hN) (by omega) ?_
          refine E.top ((hcode pc (by omega)).trans (congrArg (fun z => nI (1048576 * z + (code pc).2)) ho)) ?_
          refine E_ldc (nI 1048576) dX12_reckonsTo_29 k_X12_163 ?_
          refine E_idiv dX12_reckonsTo_31 (by decide) ?_
          refine E.top (pk_div (a := 1048576 * 11 + (code pc).2) (d := 1048576) (by omega) (by decide) (by decide)) ?_
          refine E.top (congrArg nI (show (1048576 * 11 + (code pc).2) / 1048576 = 11 by omega)) ?_
          refine E_istore dX12_reckonsTo_32 (Nat.le_of_ble_eq_true rfl) ?_
          refine E_aload_n dX12_reckonsTo_34 rfl ?_
          refine E_getR dX12_reckonsTo_35 f_X12_50 rfl (Nat.lt_of_lt_of_le (by decide) hN) rfl (hR _ _ _ rfl) ?_
          refine E_iload dX12_reckonsTo_38 rfl ?_
          refine E_ialdN dX12_reckonsTo_40 rfl (Nat.lt_of_lt_of_le (by decide) hN) (by omega) ?_
          refine E.top ((hcode pc (by omega)).trans (congrArg (fun z => nI (1048576 * z + (code pc).2)) ho)) ?_
          refine E_ldc (nI 1048576) dX12_reckonsTo_41 k_X12_163 ?_
          refine E_irem dX12_reckonsTo_43 (by decide) ?_
          refine E.top (pk_rem (a := 1048576 * 11 + (code pc).2) (d := 1048576) (by omega) (by decide) (by decide)) ?_
          refine E.top (congrArg nI (show (1048576 * 11 + (code pc).2) % 1048576 = (code pc).2 by omega)) ?_
          refine E_istore dX12_reckonsTo_44 (Nat.le_of_ble_eq_true rfl) ?_
          refine E_iload dX12_reckonsTo_46 rfl ?_
          refine E_ic (nI 1) dX12_reckonsTo_48 (by decide) ?_
          refine E_iadd dX12_reckonsTo_49 ?_
          refine E.top (nI_add pc 1) ?_
          refine E_istore dX12_reckonsTo_50 (Nat.le_of_ble_eq_true rfl) ?_
          refine E_iload dX12_reckonsTo_52 rfl ?_
          refine E_zN_eq (a := 11) (tgt := 63) dX12_reckonsTo_54 (by decide) (by decide) (fun cw54 => absurd cw54 (by omega)) (fun cw54 => ?_)
          refine E_iload dX12_reckonsTo_57 rfl ?_
          refine E_ic (nI 1) dX12_reckonsTo_59 (by decide) ?_
          refine E_cN_ne (a := 11) (b := 1) (tgt := 93) dX12_reckonsTo_60 (by decide) (by decide) (by decide) (fun cw60 => ?_) (fun cw60 => absurd cw60 (by omega))
          refine E_iload dX12_reckonsTo_93 rfl ?_
          refine E_bp (nI 10) dX12_reckonsTo_95 (by decide) ?_
          refine E_cN_ne (a := 11) (b := 10) (tgt := 121) dX12_reckonsTo_97 (by decide) (by decide) (by decide) (fun cw97 => ?_) (fun cw97 => absurd cw97 (by omega))
          refine E_iload dX12_reckonsTo_121 rfl ?_
          refine E_bp (nI 11) dX12_reckonsTo_123 (by decide) ?_
          refine E_cN_eq (a := 11) (b := 11) (tgt := 135) dX12_reckonsTo_125 (by decide) (by decide) (by decide) (fun cw125 => ?_) (fun cw125 => absurd cw125 (by omega))
          refine E_aload_n dX12_reckonsTo_135 rfl ?_
          refine E_getR dX12_reckonsTo_136 f_X12_65 rfl (Nat.lt_of_lt_of_le (by decide) hN) rfl (hR _ _ _ rfl) ?_
          refine E_iload_n dX12_reckonsTo_139 rfl ?_
          refine E_ic (nI 1) dX12_reckonsTo_140 (by decide) ?_
          refine E_isub dX12_reckonsTo_141 ?_
          refine E.top (pk_sub (a := s.length + 1) (b := 1) (by omega)) ?_
          refine E.top (congrArg nI (Nat.add_sub_cancel (n := s.length) (m := 1))) ?_
          refine E_ialdN dX12_reckonsTo_142 rfl (Nat.lt_of_lt_of_le (by decide) hN) (by omega) ?_
          refine E.top (hsk.1) ?_
          refine E_iload dX12_reckonsTo_143 rfl ?_
          refine E_bp (nI 12) dX12_reckonsTo_145 (by decide) ?_
          refine E_cN_ne (a := 11) (b := 12) (tgt := 154) dX12_reckonsTo_147 (by decide) (by decide) (by decide) (fun cw147 => ?_) (fun cw147 => absurd cw147 (by omega))
          refine E_ic (nI 0) dX12_reckonsTo_154 (by decide) ?_
          refine E_cN_ne (a := 0) (b := 0) (tgt := 168) dX12_reckonsTo_155 (by decide) (by decide) (by decide) (fun cw155 => absurd cw155 (by omega)) (fun cw155 => ?_)
          refine E_iload dX12_reckonsTo_158 rfl ?_
          refine E_iload dX12_reckonsTo_160 rfl ?_
          refine E_iadd dX12_reckonsTo_162 ?_
          refine E.top (nI_add 0 ((code pc).2)) ?_
          refine E.top (congrArg nI (Nat.zero_add _)) ?_
          refine E_istore dX12_reckonsTo_163 (Nat.le_of_ble_eq_true rfl) ?_
          refine E_goto (tgt := 230) dX12_reckonsTo_165 (by decide) ?_
          refine E_goto (tgt := 16) dX12_reckonsTo_230 (by decide) ?_
          refine E.mask [true, true, true, true, true, true, false, false] ?_
          exact ih (code pc).2 (0 :: s) I h2 hcode hfa hsk h3b hlen hQ
        · skip
          have hl2 : s.length + 1 ≤ 32 := hlen
          refine E_iload dX12_reckonsTo_16 rfl ?_
          refine E_iload_n dX12_reckonsTo_18 rfl ?_
          refine E_cN_ge (a := pc) (b := to) (tgt := 233) dX12_reckonsTo_19 (by omega) (by omega) (by decide) (fun cw19 => absurd cw19 (by omega)) (fun cw19 => ?_)
          refine E_aload_n dX12_reckonsTo_22 rfl ?_
          refine E_getR dX12_reckonsTo_23 f_X12_50 rfl (Nat.lt_of_lt_of_le (by decide) hN) rfl (hR _ _ _ rfl) ?_
          refine E_iload dX12_reckonsTo_26 rfl ?_
          refine E_ialdN dX12_reckonsTo_28 rfl (Nat.lt_of_lt_of_le (by decide) hN) (by omega) ?_
          refine E.top ((hcode pc (by omega)).trans (congrArg (fun z => nI (1048576 * z + (code pc).2)) ho)) ?_
          refine E_ldc (nI 1048576) dX12_reckonsTo_29 k_X12_163 ?_
          refine E_idiv dX12_reckonsTo_31 (by decide) ?_
          refine E.top (pk_div (a := 1048576 * 11 + (code pc).2) (d := 1048576) (by omega) (by decide) (by decide)) ?_
          refine E.top (congrArg nI (show (1048576 * 11 + (code pc).2) / 1048576 = 11 by omega)) ?_
          refine E_istore dX12_reckonsTo_32 (Nat.le_of_ble_eq_true rfl) ?_
          refine E_aload_n dX12_reckonsTo_34 rfl ?_
          refine E_getR dX12_reckonsTo_35 f_X12_50 rfl (Nat.lt_of_lt_of_le (by decide) hN) rfl (hR _ _ _ rfl) ?_
          refine E_iload dX12_reckonsTo_38 rfl ?_
          refine E_ialdN dX12_reckonsTo_40 rfl (Nat.lt_of_lt_of_le (by decide) hN) (by omega) ?_
          refine E.top ((hcode pc (by omega)).trans (congrArg (fun z => nI (1048576 * z + (code pc).2)) ho)) ?_
          refine E_ldc (nI 1048576) dX12_reckonsTo_41 k_X12_163 ?_
          refine E_irem dX12_reckonsTo_43 (by decide) ?_
          refine E.top (pk_rem (a := 1048576 * 11 + (code pc).2) (d := 1048576) (by omega) (by decide) (by decide)) ?_
          refine E.top (congrArg nI (show (1048576 * 11 + (code pc).2) % 1048576 = (code pc).2 by omega)) ?_
          refine E_istore dX12_reckonsTo_44 (Nat.le_of_ble_eq_true rfl) ?_
          refine E_iload dX12_reckonsTo_46 rfl ?_
          refine E_ic (nI 1) dX12_reckonsTo_48 (by decide) ?_
          refine E_iadd dX12_reckonsTo_49 ?_
          refine E.top (nI_add pc 1) ?_
          refine E_istore dX12_reckonsTo_50 (Nat.le_of_ble_eq_true rfl) ?_
          refine E_iload dX12_reckonsTo_52 rfl ?_
          refine E_zN_eq (a := 11) (tgt := 63) dX12_reckonsTo_54 (by decide) (by decide) (fun cw54 => absurd cw54 (by omega)) (fun cw54 => ?_)
          refine E_iload dX12_reckonsTo_57 rfl ?_
          refine E_ic (nI 1) dX12_reckonsTo_59 (by decide) ?_
          refine E_cN_ne (a := 11) (b := 1) (tgt := 93) dX12_reckonsTo_60 (by decide) (by decide) (by decide) (fun cw60 => ?_) (fun cw60 => absurd cw60 (by omega))
          refine E_iload dX12_reckonsTo_93 rfl ?_
          refine E_bp (nI 10) dX12_reckonsTo_95 (by decide) ?_
          refine E_cN_ne (a := 11) (b := 10) (tgt := 121) dX12_reckonsTo_97 (by decide) (by decide) (by decide) (fun cw97 => ?_) (fun cw97 => absurd cw97 (by omega))
          refine E_iload dX12_reckonsTo_121 rfl ?_
          refine E_bp (nI 11) dX12_reckonsTo_123 (by decide) ?_
          refine E_cN_eq (a := 11) (b := 11) (tgt := 135) dX12_reckonsTo_125 (by decide) (by decide) (by decide) (fun cw125 => ?_) (fun cw125 => absurd cw125 (by omega))
          refine E_aload_n dX12_reckonsTo_135 rfl ?_
          refine E_getR dX12_reckonsTo_136 f_X12_65 rfl (Nat.lt_of_lt_of_le (by decide) hN) rfl (hR _ _ _ rfl) ?_
          refine E_iload_n dX12_reckonsTo_139 rfl ?_
          refine E_ic (nI 1) dX12_reckonsTo_140 (by decide) ?_
          refine E_isub dX12_reckonsTo_141 ?_
          refine E.top (pk_sub (a := s.length + 1) (b := 1) (by omega)) ?_
          refine E.top (congrArg nI (Nat.add_sub_cancel (n := s.length) (m := 1))) ?_
          refine E_ialdN dX12_reckonsTo_142 rfl (Nat.lt_of_lt_of_le (by decide) hN) (by omega) ?_
          refine E.top (hsk.1) ?_
          refine E_iload dX12_reckonsTo_143 rfl ?_
          refine E_bp (nI 12) dX12_reckonsTo_145 (by decide) ?_
          refine E_cN_ne (a := 11) (b := 12) (tgt := 154) dX12_reckonsTo_147 (by decide) (by decide) (by decide) (fun cw147 => ?_) (fun cw147 => absurd cw147 (by omega))
          refine E_ic (nI 0) dX12_reckonsTo_154 (by decide) ?_
          refine E_cN_ne (a := 1) (b := 0) (tgt := 168) dX12_reckonsTo_155 (by decide) (by decide) (by decide) (fun cw155 => ?_) (fun cw155 => absurd cw155 (by omega))
          refine E_iload_n dX12_reckonsTo_168 rfl ?_
          refine E_ic (nI 1) dX12_reckonsTo_169 (by decide) ?_
          refine E_isub dX12_reckonsTo_170 ?_
          refine E.top (pk_sub (a := s.length + 1) (b := 1) (by omega)) ?_
          refine E.top (congrArg nI (Nat.add_sub_cancel (n := s.length) (m := 1))) ?_
          refine E_istore_n dX12_reckonsTo_171 (Nat.le_of_ble_eq_true rfl) ?_
          refine E_goto (tgt := 230) dX12_reckonsTo_172 (by decide) ?_
          refine E_goto (tgt := 16) dX12_reckonsTo_230 (by decide) ?_
          refine E.mask [true, true, true, true, true, true, false, false] ?_
          exact ih (pc + 1) s I h2 hcode hfa hsk.2 (by omega) (by omega) hQ
      · -- 12
        obtain ⟨s, ⟨rfl, h3, h3b, h2⟩ | ⟨rfl, h2⟩⟩ := ev_12 cp ho h
        · skip
          have hl2 : s.length + 1 ≤ 32 := hlen
          refine E_iload dX12_reckonsTo_16 rfl ?_
          refine E_iload_n dX12_reckonsTo_18 rfl ?_
          refine E_cN_ge (a := pc) (b := to) (tgt := 233) dX12_reckonsTo_19 (by omega) (by omega) (by decide) (fun cw19 => absurd cw19 (by omega)) (fun cw19 => ?_)
          refine E_aload_n dX12_reckonsTo_22 rfl ?_
          refine E_getR dX12_reckonsTo_23 f_X12_50 rfl (Nat.lt_of_lt_of_le (by decide) hN) rfl (hR _ _ _ rfl) ?_
          refine E_iload dX12_reckonsTo_26 rfl ?_
          refine E_ialdN dX12_reckonsTo_28 rfl (Nat.lt_of_lt_of_le (by decide) hN) (by omega) ?_
          refine E.top ((hcode pc (by omega)).trans (congrArg (fun z => nI (1048576 * z + (code pc).2)) ho)) ?_
          refine E_ldc (nI 1048576) dX12_reckonsTo_29 k_X12_163 ?_
          refine E_idiv dX12_reckonsTo_31 (by decide) ?_
          refine E.top (pk_div (a := 1048576 * 12 + (code pc).2) (d := 1048576) (by omega) (by decide) (by decide)) ?_
          refine E.top (congrArg nI (show (1048576 * 12 + (code pc).2) / 1048576 = 12 by omega)) ?_
          refine E_istore dX12_reckonsTo_32 (Nat.le_of_ble_eq_true rfl) ?_
          refine E_aload_n dX12_reckonsTo_34 rfl ?_
          refine E_getR dX12_reckonsTo_35 f_X12_50 rfl (Nat.lt_of_lt_of_le (by decide) hN) rfl (hR _ _ _ rfl) ?_
          refine E_iload dX12_reckonsTo_38 rfl ?_
          refine E_ialdN dX12_reckonsTo_40 rfl (Nat.lt_of_lt_of_le (by decide) hN) (by omega) ?_
          refine E.top ((hcode pc (by omega)).trans (congrArg (fun z => nI (1048576 * z + (code pc).2)) ho)) ?_
          refine E_ldc (nI 1048576) dX12_reckonsTo_41 k_X12_163 ?_
          refine E_irem dX12_reckonsTo_43 (by decide) ?_
          refine E.top (pk_rem (a := 1048576 * 12 + (code pc).2) (d := 1048576) (by omega) (by decide) (by decide)) ?_
          refine E.top (congrArg nI (show (1048576 * 12 + (code pc).2) % 1048576 = (code pc).2 by omega)) ?_
          refine E_istore dX12_reckonsTo_44 (Nat.le_of_ble_eq_true rfl) ?_
          refine E_iload dX12_reckonsTo_46 rfl ?_
          refine E_ic (nI 1) dX12_reckonsTo_48 (by decide) ?_
          refine E_iadd dX12_reckonsTo_49 ?_
          refine E.top (nI_add pc 1) ?_
          refine E_istore dX12_reckonsTo_50 (Nat.le_of_ble_eq_true rfl) ?_
          refine E_iload dX12_reckonsTo_52 rfl ?_
          refine E_zN_eq (a := 12) (tgt := 63) dX12_reckonsTo_54 (by decide) (by decide) (fun cw54 => absurd cw54 (by omega)) (fun cw54 => ?_)
          refine E_iload dX12_reckonsTo_57 rfl ?_
          refine E_ic (nI 1) dX12_reckonsTo_59 (by decide) ?_
          refine E_cN_ne (a := 12) (b := 1) (tgt := 93) dX12_reckonsTo_60 (by decide) (by decide) (by decide) (fun cw60 => ?_) (fun cw60 => absurd cw60 (by omega))
          refine E_iload dX12_reckonsTo_93 rfl ?_
          refine E_bp (nI 10) dX12_reckonsTo_95 (by decide) ?_
          refine E_cN_ne (a := 12) (b := 10) (tgt := 121) dX12_reckonsTo_97 (by decide) (by decide) (by decide) (fun cw97 => ?_) (fun cw97 => absurd cw97 (by omega))
          refine E_iload dX12_reckonsTo_121 rfl ?_
          refine E_bp (nI 11) dX12_reckonsTo_123 (by decide) ?_
          refine E_cN_eq (a := 12) (b := 11) (tgt := 135) dX12_reckonsTo_125 (by decide) (by decide) (by decide) (fun cw125 => absurd cw125 (by omega)) (fun cw125 => ?_)
          refine E_iload dX12_reckonsTo_128 rfl ?_
          refine E_bp (nI 12) dX12_reckonsTo_130 (by decide) ?_
          refine E_cN_ne (a := 12) (b := 12) (tgt := 175) dX12_reckonsTo_132 (by decide) (by decide) (by decide) (fun cw132 => absurd cw132 (by omega)) (fun cw132 => ?_)
          refine E_aload_n dX12_reckonsTo_135 rfl ?_
          refine E_getR dX12_reckonsTo_136 f_X12_65 rfl (Nat.lt_of_lt_of_le (by decide) hN) rfl (hR _ _ _ rfl) ?_
          refine E_iload_n dX12_reckonsTo_139 rfl ?_
          refine E_ic (nI 1) dX12_reckonsTo_140 (by decide) ?_
          refine E_isub dX12_reckonsTo_141 ?_
          refine E.top (pk_sub (a := s.length + 1) (b := 1) (by omega)) ?_
          refine E.top (congrArg nI (Nat.add_sub_cancel (n := s.length) (m := 1))) ?_
          refine E_ialdN dX12_reckonsTo_142 rfl (Nat.lt_of_lt_of_le (by decide) hN) (by omega) ?_
          refine E.top (hsk.1) ?_
          refine E_iload dX12_reckonsTo_143 rfl ?_
          refine E_bp (nI 12) dX12_reckonsTo_145 (by decide) ?_
          refine E_cN_ne (a := 12) (b := 12) (tgt := 154) dX12_reckonsTo_147 (by decide) (by decide) (by decide) (fun cw147 => absurd cw147 (by omega)) (fun cw147 => ?_)
          refine E_ic (nI 1) dX12_reckonsTo_150 (by decide) ?_
          refine E_goto (tgt := 155) dX12_reckonsTo_151 (by decide) ?_
          refine E_cN_ne (a := 1) (b := 1) (tgt := 168) dX12_reckonsTo_155 (by decide) (by decide) (by decide) (fun cw155 => absurd cw155 (by omega)) (fun cw155 => ?_)
          refine E_iload dX12_reckonsTo_158 rfl ?_
          refine E_iload dX12_reckonsTo_160 rfl ?_
          refine E_iadd dX12_reckonsTo_162 ?_
          refine E.top (nI_add 0 ((code pc).2)) ?_
          refine E.top (congrArg nI (Nat.zero_add _)) ?_
          refine E_istore dX12_reckonsTo_163 (Nat.le_of_ble_eq_true rfl) ?_
          refine E_goto (tgt := 230) dX12_reckonsTo_165 (by decide) ?_
          refine E_goto (tgt := 16) dX12_reckonsTo_230 (by decide) ?_
          refine E.mask [true, true, true, true, true, true, false, false] ?_
          exact ih (code pc).2 (1 :: s) I h2 hcode hfa hsk h3b hlen hQ
        · skip
          have hl2 : s.length + 1 ≤ 32 := hlen
          refine E_iload dX12_reckonsTo_16 rfl ?_
          refine E_iload_n dX12_reckonsTo_18 rfl ?_
          refine E_cN_ge (a := pc) (b := to) (tgt := 233) dX12_reckonsTo_19 (by omega) (by omega) (by decide) (fun cw19 => absurd cw19 (by omega)) (fun cw19 => ?_)
          refine E_aload_n dX12_reckonsTo_22 rfl ?_
          refine E_getR dX12_reckonsTo_23 f_X12_50 rfl (Nat.lt_of_lt_of_le (by decide) hN) rfl (hR _ _ _ rfl) ?_
          refine E_iload dX12_reckonsTo_26 rfl ?_
          refine E_ialdN dX12_reckonsTo_28 rfl (Nat.lt_of_lt_of_le (by decide) hN) (by omega) ?_
          refine E.top ((hcode pc (by omega)).trans (congrArg (fun z => nI (1048576 * z + (code pc).2)) ho)) ?_
          refine E_ldc (nI 1048576) dX12_reckonsTo_29 k_X12_163 ?_
          refine E_idiv dX12_reckonsTo_31 (by decide) ?_
          refine E.top (pk_div (a := 1048576 * 12 + (code pc).2) (d := 1048576) (by omega) (by decide) (by decide)) ?_
          refine E.top (congrArg nI (show (1048576 * 12 + (code pc).2) / 1048576 = 12 by omega)) ?_
          refine E_istore dX12_reckonsTo_32 (Nat.le_of_ble_eq_true rfl) ?_
          refine E_aload_n dX12_reckonsTo_34 rfl ?_
          refine E_getR dX12_reckonsTo_35 f_X12_50 rfl (Nat.lt_of_lt_of_le (by decide) hN) rfl (hR _ _ _ rfl) ?_
          refine E_iload dX12_reckonsTo_38 rfl ?_
          refine E_ialdN dX12_reckonsTo_40 rfl (Nat.lt_of_lt_of_le (by decide) hN) (by omega) ?_
          refine E.top ((hcode pc (by omega)).trans (congrArg (fun z => nI (1048576 * z + (code pc).2)) ho)) ?_
          refine E_ldc (nI 1048576) dX12_reckonsTo_41 k_X12_163 ?_
          refine E_irem dX12_reckonsTo_43 (by decide) ?_
          refine E.top (pk_rem (a := 1048576 * 12 + (code pc).2) (d := 1048576) (by omega) (by decide) (by decide)) ?_
          refine E.top (congrArg nI (show (1048576 * 12 + (code pc).2) % 1048576 = (code pc).2 by omega)) ?_
          refine E_istore dX12_reckonsTo_44 (Nat.le_of_ble_eq_true rfl) ?_
          refine E_iload dX12_reckonsTo_46 rfl ?_
          refine E_ic (nI 1) dX12_reckonsTo_48 (by decide) ?_
          refine E_iadd dX12_reckonsTo_49 ?_
          refine E.top (nI_add pc 1) ?_
          refine E_istore dX12_reckonsTo_50 (Nat.le_of_ble_eq_true rfl) ?_
          refine E_iload dX12_reckonsTo_52 rfl ?_
          refine E_zN_eq (a := 12) (tgt := 63) dX12_reckonsTo_54 (by decide) (by decide) (fun cw54 => absurd cw54 (by omega)) (fun cw54 => ?_)
          refine E_iload dX12_reckonsTo_57 rfl ?_
          refine E_ic (nI 1) dX12_reckonsTo_59 (by decide) ?_
          refine E_cN_ne (a := 12) (b := 1) (tgt := 93) dX12_reckonsTo_60 (by decide) (by decide) (by decide) (fun cw60 => ?_) (fun cw60 => absurd cw60 (by omega))
          refine E_iload dX12_reckonsTo_93 rfl ?_
          refine E_bp (nI 10) dX12_reckonsTo_95 (by decide) ?_
          refine E_cN_ne (a := 12) (b := 10) (tgt := 121) dX12_reckonsTo_97 (by decide) (by decide) (by decide) (fun cw97 => ?_) (fun cw97 => absurd cw97 (by omega))
          refine E_iload dX12_reckonsTo_121 rfl ?_
          refine E_bp (nI 11) dX12_reckonsTo_123 (by decide) ?_
          refine E_cN_eq (a := 12) (b := 11) (tgt := 135) dX12_reckonsTo_125 (by decide) (by decide) (by decide) (fun cw125 => absurd cw125 (by omega)) (fun cw125 => ?_)
          refine E_iload dX12_reckonsTo_128 rfl ?_
          refine E_bp (nI 12) dX12_reckonsTo_130 (by decide) ?_
          refine E_cN_ne (a := 12) (b := 12) (tgt := 175) dX12_reckonsTo_132 (by decide) (by decide) (by decide) (fun cw132 => absurd cw132 (by omega)) (fun cw132 => ?_)
          refine E_aload_n dX12_reckonsTo_135 rfl ?_
          refine E_getR dX12_reckonsTo_136 f_X12_65 rfl (Nat.lt_of_lt_of_le (by decide) hN) rfl (hR _ _ _ rfl) ?_
          refine E_iload_n dX12_reckonsTo_139 rfl ?_
          refine E_ic (nI 1) dX12_reckonsTo_140 (by decide) ?_
          refine E_isub dX12_reckonsTo_141 ?_
          refine E.top (pk_sub (a := s.length + 1) (b := 1) (by omega)) ?_
          refine E.top (congrArg nI (Nat.add_sub_cancel (n := s.length) (m := 1))) ?_
          refine E_ialdN dX12_reckonsTo_142 rfl (Nat.lt_of_lt_of_le (by decide) hN) (by omega) ?_
          refine E.top (hsk.1) ?_
          refine E_iload dX12_reckonsTo_143 rfl ?_
          refine E_bp (nI 12) dX12_reckonsTo_145 (by decide) ?_
          refine E_cN_ne (a := 12) (b := 12) (tgt := 154) dX12_reckonsTo_147 (by decide) (by decide) (by decide) (fun cw147 => absurd cw147 (by omega)) (fun cw147 => ?_)
          refine E_ic (nI 1) dX12_reckonsTo_150 (by decide) ?_
          refine E_goto (tgt := 155) dX12_reckonsTo_151 (by decide) ?_
          refine E_cN_ne (a := 0) (b := 1) (tgt := 168) dX12_reckonsTo_155 (by decide) (by decide) (by decide) (fun cw155 => ?_) (fun cw155 => absurd cw155 (by omega))
          refine E_iload_n dX12_reckonsTo_168 rfl ?_
          refine E_ic (nI 1) dX12_reckonsTo_169 (by decide) ?_
          refine E_isub dX12_reckonsTo_170 ?_
          refine E.top (pk_sub (a := s.length + 1) (b := 1) (by omega)) ?_
          refine E.top (congrArg nI (Nat.add_sub_cancel (n := s.length) (m := 1))) ?_
          refine E_istore_n dX12_reckonsTo_171 (Nat.le_of_ble_eq_true rfl) ?_
          refine E_goto (tgt := 230) dX12_reckonsTo_172 (by decide) ?_
          refine E_goto (tgt := 16) dX12_reckonsTo_230 (by decide) ?_
          refine E.mask [true, true, true, true, true, true, false, false] ?_
          exact ih (pc + 1) s I h2 hcode hfa hsk.2 (by omega) (by omega) hQ
set_option maxRecDepth 100000 in
set_option maxHeartbeats 2000000 in
theorem m_reckonsTo {code : CDE} {fa : Nat → Int32} {to fr : Nat} {v : Int32} (hN : 152 ≤ n) (hR : RS R) (hto : to ≤ 240) (hfr : fr ≤ 240) (hcd : CDok code to) (h : evL code fa to 240 fr [] = some v) (hcode : ∀ i, i < to → I 128 i = nI (1048576 * (code i).1 + (code i).2)) (hfa : ∀ j, j < 9 → I 134 j = fa j) (hQ : ∀ I2 : IM, (∀ x, x ≠ 133 → I2 x = I x) → Q (some (.int v)) n I2 J R) : E g mX12_reckonsTo (d + 1) 0 0 0 (ent 8 [.ref 114, .int (nI fr), .int (nI to)]) [] n I J R Q := by
  refine E_ic (nI 0) dX12_reckonsTo_0 (by decide) ?_
  refine E_istore_n dX12_reckonsTo_1 (Nat.le_of_ble_eq_true rfl) ?_
  refine E_sp (nI 260) dX12_reckonsTo_2 (by decide) ?_
  refine E_iload_n dX12_reckonsTo_5 rfl ?_
  refine E_sp (nI 260) dX12_reckonsTo_6 (by decide) ?_
  refine E_idiv dX12_reckonsTo_9 (by decide) ?_
  refine E.top (pk_div (a := fr) (d := 260) (by omega) (by decide) (by decide)) ?_
  refine E_imul dX12_reckonsTo_10 ?_
  refine E.top (pk_mul 260 (fr / 260)) ?_
  refine E.top (congrArg nI (show 260 * (fr / 260) = 0 by omega)) ?_
  refine E_istore dX12_reckonsTo_11 (Nat.le_of_ble_eq_true rfl) ?_
  refine E_iload_n dX12_reckonsTo_13 rfl ?_
  refine E_istore dX12_reckonsTo_14 (Nat.le_of_ble_eq_true rfl) ?_
  exact m_rkL hN hR hto hcd 240 fr [] I h hcode hfa trivial hfr (by decide) hQ
/-- a law: how many rules, their letters, where E begins, where C begins and ends, the code, its length -/
abbrev LWD : Type := Nat × (Nat → Nat) × (Nat → Nat) × (Nat → Nat) × (Nat → Nat) × CDE × Nat
def LXq (q : LWD) (I : IM) : Prop := I 3 7 = nI q.1 ∧ (∀ r, r < q.1 → I 5 r = nI (q.2.1 r) ∧ I 6 r = nI (q.2.2.1 r) ∧ I 7 r = nI (q.2.2.2.1 r) ∧ I 8 r = nI (q.2.2.2.2.1 r)) ∧ ∀ i, i < q.2.2.2.2.2.2 → I 4 i = nI (whc (q.2.2.2.2.2.1 i).1 + 256 * (q.2.2.2.2.2.1 i).2)
def LMq (q : LWD) (I : IM) : Prop := I 114 16 = nI q.1 ∧ (∀ r, r < q.1 → I 129 r = nI (q.2.1 r) ∧ I 130 r = nI (q.2.2.1 r) ∧ I 131 r = nI (q.2.2.2.1 r) ∧ I 132 r = nI (q.2.2.2.2.1 r)) ∧ ∀ i, i < q.2.2.2.2.2.2 → I 128 i = nI (1048576 * (q.2.2.2.2.2.1 i).1 + (q.2.2.2.2.2.1 i).2)
def evE (q : LWD) (fa : Nat → Int32) (r : Nat) : Option Int32 := evL q.2.2.2.2.2.1 fa (q.2.2.2.1 r) 240 (q.2.2.1 r) []
def evC (q : LWD) (fa : Nat → Int32) (r : Nat) : Option Int32 := evL q.2.2.2.2.2.1 fa (q.2.2.2.2.1 r) 240 (q.2.2.2.1 r) []
def LWF (q : LWD) : Prop := q.1 ≤ 16 ∧ q.2.2.2.2.2.2 ≤ 240 ∧ CDok q.2.2.2.2.2.1 q.2.2.2.2.2.2 ∧ ∀ r, r < q.1 → q.2.1 r < 256 ∧ q.2.2.1 r ≤ q.2.2.2.1 r ∧ q.2.2.2.1 r ≤ q.2.2.2.2.1 r ∧ q.2.2.2.2.1 r ≤ q.2.2.2.2.2.2 ∧ (q.2.1 r ≠ 120 → ∀ fa, ∃ v, evE q fa r = some v) ∧ ∀ fa, evC q fa r = some 0 ∨ evC q fa r = some 1
def clN (v : Int32) (mo : Nat) : Nat := if v < 0 then 0 else min v.toNatClampNeg mo
def amL (q : LWD) (fa : Nat → Int32) (w mo : Nat) : Nat → Nat → Nat
  | 0, _ => 0
  | e + 1, r => if q.2.1 r = w ∧ evC q fa r = some 1 then clN ((evE q fa r).getD 0) mo else amL q fa w mo e (r + 1)
def brL (q : LWD) (fa : Nat → Int32) : Nat → Nat → Nat
  | 0, _ => 0
  | e + 1, r => if q.2.1 r = 120 ∧ evC q fa r = some 1 then 1 else brL q fa e (r + 1)
theorem clN_le (v : Int32) (mo : Nat) : clN v mo ≤ mo := by
  unfold clN
  split
  · exact Nat.zero_le _
  · exact Nat.min_le_right _ _
theorem amL_le (q : LWD) (fa : Nat → Int32) (w mo : Nat) : ∀ e r, amL q fa w mo e r ≤ mo
  | 0, _ => Nat.zero_le _
  | e + 1, r => by
    unfold amL
    split
    · exact clN_le _ _
    · exact amL_le q fa w mo e (r + 1)
theorem brL_le (q : LWD) (fa : Nat → Int32) : ∀ e r, brL q fa e r ≤ 1
  | 0, _ => Nat.zero_le _
  | e + 1, r => by
    unfold brL
    split
    · exact Nat.le_refl _
    · exact brL_le q fa e (r + 1)
theorem cl_x {v : Int32} {mo : Nat} (hm : mo < 2 ^ 31) : imax (nI 0) (imin (nI mo) v) = nI (clN v mo) := by
  unfold clN
  by_cases h : v < 0
  · rw [if_pos h]
    unfold imin imax
    rw [if_pos (Int32.lt_of_lt_of_le h (nI_pos' hm)), if_neg (show ¬ nI 0 < v from Int32.not_lt.mpr (Int32.le_of_lt h))]
  · rw [if_neg h]
    obtain ⟨j, hj, rfl⟩ := nI_of h
    rw [nI_min _ _ hm hj, nI_max _ _ (by decide) (by omega), nI_clamp hj]
    congr 1
    omega
/-- the law's relation -/
def LRq (I : IM) : Prop := ∃ q : LWD, LWF q ∧ LXq q I ∧ LMq q I
theorem LRq_ok : LRok LRq := by
  rintro I I' h1 h2 h3 ⟨q, a, ⟨b1, b2, b3⟩, ⟨c1, c2, c3⟩⟩
  refine ⟨q, a, ⟨?_, fun r hr => ?_, fun i hi => ?_⟩, ⟨?_, fun r hr => ?_, fun i hi => ?_⟩⟩
  · rw [h1 3 (by decide) (by decide)]
    exact b1
  · rw [h1 5 (by decide) (by decide), h1 6 (by decide) (by decide), h1 7 (by decide) (by decide), h1 8 (by decide) (by decide)]
    exact b2 r hr
  · rw [h1 4 (by decide) (by decide)]
    exact b3 i hi
  · rw [h2]
    exact c1
  · rw [h3 129 (by decide) (by decide), h3 130 (by decide) (by decide), h3 131 (by decide) (by decide), h3 132 (by decide) (by decide)]
    exact c2 r hr
  · rw [h3 128 (by decide) (by decide)]
    exact c3 i hi
theorem LRq_5 (I : IM) (h : LRq I) : I 3 7 = I 114 16 := by
  obtain ⟨q, _, b, c⟩ := h
  rw [b.1, c.1]
theorem CDok.le {code : CDE} {a b : Nat} (h : CDok code b) (hab : a ≤ b) : CDok code a := fun i hi => h i (by omega)
set_option maxRecDepth 100000 in
set_option maxHeartbeats 2000000 in
theorem x_amount {q : LWD} {fa : Nat → Int32} {w mo : Nat} (hN : 152 ≤ n) (hR : RS R) (hq : LWF q) (hl : LXq q I) (hfa : ∀ j, j < 9 → I 9 j = fa j) (hw : w < 256) (hw2 : w ≠ 120) (hmo : mo < 1000) (hQ : ∀ I2 : IM, (∀ x, x ≠ 10 → I2 x = I x) → Q (some (.int (nI (amL q fa w mo (q.1) 0)))) n I2 J R) : E g mX3_amount (d + 2) 0 0 0 (ent 4 [.ref 3, .int (nI w), .int (nI mo)]) [] n I J R Q := by
  have key : ∀ (e r : Nat), r + e = q.1 → ∀ I2 : IM, (∀ x, x ≠ 10 → I2 x = I x) → (∀ I5 : IM, (∀ x, x ≠ 10 → I5 x = I x) → Q (some (.int (nI (amL q fa w mo e r)))) n I5 J R) → E g mX3_amount (d + 2) 0 0 2 [.ref 3, .int (nI w), .int (nI mo), .int (nI r)] [] n I2 J R Q := by
    intro e
    induction e with
    | zero =>
      intro r hre I2 hv hQ
      have q1 := hq.1
      refine E_iload_n dX3_amount_2 rfl ?_
      refine E_aload_n dX3_amount_3 rfl ?_
      refine E_getI dX3_amount_4 f_X3_41 rfl (Nat.lt_of_lt_of_le (by decide) hN) rfl ?_
      refine E.top ((congrFun (hv 3 (by decide)) 7).trans hl.1) ?_
      refine E_cN_ge (a := r) (b := q.1) (tgt := 70) dX3_amount_7 (by omega) (by omega) (by decide) (fun cw7 => ?_) (fun cw7 => absurd cw7 (by omega))
      refine E_ic (nI 0) dX3_amount_70 (by decide) ?_
      exact E_iret dX3_amount_71 rfl (hQ I2 hv)
    | succ e ih =>
      intro r hre I2 hv hQ
      have hr : r < q.1 := by omega
      have q1 := hq.1
      obtain ⟨l1, l2, l3, l4, l5, l6⟩ := hq.2.2.2 r hr
      have q2 := hq.2.1
      by_cases hne : q.2.1 r = w
      · rcases l6 fa with hc | hc
        · skip
          refine E_iload_n dX3_amount_2 rfl ?_
          refine E_aload_n dX3_amount_3 rfl ?_
          refine E_getI dX3_amount_4 f_X3_41 rfl (Nat.lt_of_lt_of_le (by decide) hN) rfl ?_
          refine E.top ((congrFun (hv 3 (by decide)) 7).trans hl.1) ?_
          refine E_cN_ge (a := r) (b := q.1) (tgt := 70) dX3_amount_7 (by omega) (by omega) (by decide) (fun cw7 => absurd cw7 (by omega)) (fun cw7 => ?_)
          refine E_aload_n dX3_amount_10 rfl ?_
          refine E_getR dX3_amount_11 f_X3_15 rfl (Nat.lt_of_lt_of_le (by decide) hN) rfl (hR _ _ _ rfl) ?_
          refine E_iload_n dX3_amount_14 rfl ?_
          refine E_ialdN dX3_amount_15 rfl (Nat.lt_of_lt_of_le (by decide) hN) (by have := hq.1; omega) ?_
          refine E.top ((congrFun (hv 5 (by decide)) r).trans (hl.2.1 r hr).1) ?_
          refine E_iload_n dX3_amount_16 rfl ?_
          refine E_cN_ne (a := q.2.1 r) (b := w) (tgt := 64) dX3_amount_17 (by omega) (by omega) (by decide) (fun cw17 => absurd cw17 (by omega)) (fun cw17 => ?_)
          refine E_aload_n dX3_amount_20 rfl ?_
          refine E_aload_n dX3_amount_21 rfl ?_
          refine E_getR dX3_amount_22 f_X3_21 rfl (Nat.lt_of_lt_of_le (by decide) hN) rfl (hR _ _ _ rfl) ?_
          refine E_iload_n dX3_amount_25 rfl ?_
          refine E_ialdN dX3_amount_26 rfl (Nat.lt_of_lt_of_le (by decide) hN) (by have := hq.1; omega) ?_
          refine E.top ((congrFun (hv 7 (by decide)) r).trans (hl.2.1 r hr).2.2.1) ?_
          refine E_aload_n dX3_amount_27 rfl ?_
          refine E_getR dX3_amount_28 f_X3_24 rfl (Nat.lt_of_lt_of_le (by decide) hN) rfl (hR _ _ _ rfl) ?_
          refine E_iload_n dX3_amount_31 rfl ?_
          refine E_ialdN dX3_amount_32 rfl (Nat.lt_of_lt_of_le (by decide) hN) (by have := hq.1; omega) ?_
          refine E.top ((congrFun (hv 8 (by decide)) r).trans (hl.2.1 r hr).2.2.2) ?_
          refine E_callV (As := [_, _]) (ci := 3) (kc' := 0) (ks' := 0) (kc := 0) (ks := 0) dX3_amount_33 ok_X3_reckon w_X3_51 i_X3_reckon s_X3_reckon rfl (by decide) rfl (Nat.lt_of_lt_of_le (by decide) hN) rfl rfl rfl (Nat.le_of_ble_eq_true rfl) (Nat.le_of_ble_eq_true rfl) (Nat.le_refl _) (x_reckon (d := d) (code := q.2.2.2.2.2.1) (fa := fa) (fr := (q.2.2.2.1 r)) (to := (q.2.2.2.2.1 r)) hN hR (by omega) (by omega) (hq.2.2.1.le (by omega)) (hc) (fun i hi => (congrFun (hv 4 (by decide)) i).trans (hl.2.2 i (by omega))) (fun j hj => (congrFun (hv 9 (by decide)) j).trans (hfa j hj)) (fun I4 f_I4 => ?_))
          refine E_zN_eq (a := 0) (tgt := 64) dX3_amount_36 (by decide) (by decide) (fun cw36 => ?_) (fun cw36 => absurd cw36 (by omega))
          refine E_incN dX3_amount_64 rfl ?_
          refine E_goto (tgt := 2) dX3_amount_67 (by decide) ?_
          refine ih (r + 1) (by omega) I4 (fun x hx => (f_I4 x hx).trans (hv x hx)) ?_
          rw [show amL q fa w mo (e + 1) r = amL q fa w mo e (r + 1) from if_neg (fun z => by have := z.2; rw [hc] at this; exact absurd (Option.some.inj this) (by decide))] at hQ
          exact hQ
        · skip
          obtain ⟨v, he⟩ := l5 (by rw [hne]; exact hw2) fa
          refine E_iload_n dX3_amount_2 rfl ?_
          refine E_aload_n dX3_amount_3 rfl ?_
          refine E_getI dX3_amount_4 f_X3_41 rfl (Nat.lt_of_lt_of_le (by decide) hN) rfl ?_
          refine E.top ((congrFun (hv 3 (by decide)) 7).trans hl.1) ?_
          refine E_cN_ge (a := r) (b := q.1) (tgt := 70) dX3_amount_7 (by omega) (by omega) (by decide) (fun cw7 => absurd cw7 (by omega)) (fun cw7 => ?_)
          refine E_aload_n dX3_amount_10 rfl ?_
          refine E_getR dX3_amount_11 f_X3_15 rfl (Nat.lt_of_lt_of_le (by decide) hN) rfl (hR _ _ _ rfl) ?_
          refine E_iload_n dX3_amount_14 rfl ?_
          refine E_ialdN dX3_amount_15 rfl (Nat.lt_of_lt_of_le (by decide) hN) (by have := hq.1; omega) ?_
          refine E.top ((congrFun (hv 5 (by decide)) r).trans (hl.2.1 r hr).1) ?_
          refine E_iload_n dX3_amount_16 rfl ?_
          refine E_cN_ne (a := q.2.1 r) (b := w) (tgt := 64) dX3_amount_17 (by omega) (by omega) (by decide) (fun cw17 => absurd cw17 (by omega)) (fun cw17 => ?_)
          refine E_aload_n dX3_amount_20 rfl ?_
          refine E_aload_n dX3_amount_21 rfl ?_
          refine E_getR dX3_amount_22 f_X3_21 rfl (Nat.lt_of_lt_of_le (by decide) hN) rfl (hR _ _ _ rfl) ?_
          refine E_iload_n dX3_amount_25 rfl ?_
          refine E_ialdN dX3_amount_26 rfl (Nat.lt_of_lt_of_le (by decide) hN) (by have := hq.1; omega) ?_
          refine E.top ((congrFun (hv 7 (by decide)) r).trans (hl.2.1 r hr).2.2.1) ?_
          refine E_aload_n dX3_amount_27 rfl ?_
          refine E_getR dX3_amount_28 f_X3_24 rfl (Nat.lt_of_lt_of_le (by decide) hN) rfl (hR _ _ _ rfl) ?_
          refine E_iload_n dX3_amount_31 rfl ?_
          refine E_ialdN dX3_amount_32 rfl (Nat.lt_of_lt_of_le (by decide) hN) (by have := hq.1; omega) ?_
          refine E.top ((congrFun (hv 8 (by decide)) r).trans (hl.2.1 r hr).2.2.2) ?_
          refine E_callV (As := [_, _]) (ci := 3) (kc' := 0) (ks' := 0) (kc := 0) (ks := 0) dX3_amount_33 ok_X3_reckon w_X3_51 i_X3_reckon s_X3_reckon rfl (by decide) rfl (Nat.lt_of_lt_of_le (by decide) hN) rfl rfl rfl (Nat.le_of_ble_eq_true rfl) (Nat.le_of_ble_eq_true rfl) (Nat.le_refl _) (x_reckon (d := d) (code := q.2.2.2.2.2.1) (fa := fa) (fr := (q.2.2.2.1 r)) (to := (q.2.2.2.2.1 r)) hN hR (by omega) (by omega) (hq.2.2.1.le (by omega)) (hc) (fun i hi => (congrFun (hv 4 (by decide)) i).trans (hl.2.2 i (by omega))) (fun j hj => (congrFun (hv 9 (by decide)) j).trans (hfa j hj)) (fun I4 f_I4 => ?_))
          refine E_zN_eq (a := 1) (tgt := 64) dX3_amount_36 (by decide) (by decide) (fun cw36 => absurd cw36 (by omega)) (fun cw36 => ?_)
          refine E_ic (nI 0) dX3_amount_39 (by decide) ?_
          refine E_iload_n dX3_amount_40 rfl ?_
          refine E_aload_n dX3_amount_41 rfl ?_
          refine E_aload_n dX3_amount_42 rfl ?_
          refine E_getR dX3_amount_43 f_X3_18 rfl (Nat.lt_of_lt_of_le (by decide) hN) rfl (hR _ _ _ rfl) ?_
          refine E_iload_n dX3_amount_46 rfl ?_
          refine E_ialdN dX3_amount_47 rfl (Nat.lt_of_lt_of_le (by decide) hN) (by have := hq.1; omega) ?_
          refine E.top ((congrFun ((f_I4 6 (by decide)).trans (hv 6 (by decide))) r).trans (hl.2.1 r hr).2.1) ?_
          refine E_aload_n dX3_amount_48 rfl ?_
          refine E_getR dX3_amount_49 f_X3_21 rfl (Nat.lt_of_lt_of_le (by decide) hN) rfl (hR _ _ _ rfl) ?_
          refine E_iload_n dX3_amount_52 rfl ?_
          refine E_ialdN dX3_amount_53 rfl (Nat.lt_of_lt_of_le (by decide) hN) (by have := hq.1; omega) ?_
          refine E.top ((congrFun ((f_I4 7 (by decide)).trans (hv 7 (by decide))) r).trans (hl.2.1 r hr).2.2.1) ?_
          refine E_callV (As := [_, _]) (ci := 3) (kc' := 0) (ks' := 0) (kc := 0) (ks := 0) dX3_amount_54 ok_X3_reckon w_X3_51 i_X3_reckon s_X3_reckon rfl (by decide) rfl (Nat.lt_of_lt_of_le (by decide) hN) rfl rfl rfl (Nat.le_of_ble_eq_true rfl) (Nat.le_of_ble_eq_true rfl) (Nat.le_refl _) (x_reckon (d := d) (code := q.2.2.2.2.2.1) (fa := fa) (fr := (q.2.2.1 r)) (to := (q.2.2.2.1 r)) hN hR (by omega) (by omega) (hq.2.2.1.le (by omega)) (he) (fun i hi => (congrFun ((fun y hy => (f_I4 y hy).trans (hv y hy) : ∀ y, y ≠ 10 → I4 y = I y) 4 (by decide)) i).trans (hl.2.2 i (by omega))) (fun j hj => (congrFun ((fun y hy => (f_I4 y hy).trans (hv y hy) : ∀ y, y ≠ 10 → I4 y = I y) 9 (by decide)) j).trans (hfa j hj)) (fun I5 f_I5 => ?_))
          refine E_mmin dX3_amount_57 w_X3_55 (Nat.le_of_ble_eq_true rfl) (by omega) ?_
          refine E_mmax dX3_amount_60 w_X3_60 (Nat.le_of_ble_eq_true rfl) (by omega) ?_
          refine E.top (cl_x (by omega)) ?_
          exact E_iret dX3_amount_63 rfl (by rw [show amL q fa w mo (e + 1) r = clN v mo from (if_pos ⟨hne, hc⟩).trans (by rw [he]; rfl)] at hQ; exact hQ I5 (fun x hx => (f_I5 x hx).trans ((f_I4 x hx).trans (hv x hx))))
      · skip
        refine E_iload_n dX3_amount_2 rfl ?_
        refine E_aload_n dX3_amount_3 rfl ?_
        refine E_getI dX3_amount_4 f_X3_41 rfl (Nat.lt_of_lt_of_le (by decide) hN) rfl ?_
        refine E.top ((congrFun (hv 3 (by decide)) 7).trans hl.1) ?_
        refine E_cN_ge (a := r) (b := q.1) (tgt := 70) dX3_amount_7 (by omega) (by omega) (by decide) (fun cw7 => absurd cw7 (by omega)) (fun cw7 => ?_)
        refine E_aload_n dX3_amount_10 rfl ?_
        refine E_getR dX3_amount_11 f_X3_15 rfl (Nat.lt_of_lt_of_le (by decide) hN) rfl (hR _ _ _ rfl) ?_
        refine E_iload_n dX3_amount_14 rfl ?_
        refine E_ialdN dX3_amount_15 rfl (Nat.lt_of_lt_of_le (by decide) hN) (by have := hq.1; omega) ?_
        refine E.top ((congrFun (hv 5 (by decide)) r).trans (hl.2.1 r hr).1) ?_
        refine E_iload_n dX3_amount_16 rfl ?_
        refine E_cN_ne (a := q.2.1 r) (b := w) (tgt := 64) dX3_amount_17 (by omega) (by omega) (by decide) (fun cw17 => ?_) (fun cw17 => absurd cw17 (by omega))
        refine E_incN dX3_amount_64 rfl ?_
        refine E_goto (tgt := 2) dX3_amount_67 (by decide) ?_
        refine ih (r + 1) (by omega) I2 (hv) ?_
        rw [show amL q fa w mo (e + 1) r = amL q fa w mo e (r + 1) from if_neg (fun z => hne z.1)] at hQ
        exact hQ
  refine E_ic (nI 0) dX3_amount_0 (by decide) ?_
  refine E_istore_n dX3_amount_1 (Nat.le_of_ble_eq_true rfl) ?_
  exact key q.1 0 (Nat.zero_add _) I (fun _ _ => rfl) hQ
set_option maxRecDepth 100000 in
set_option maxHeartbeats 2000000 in
theorem x_breaks {q : LWD} {fa : Nat → Int32} (hN : 152 ≤ n) (hR : RS R) (hq : LWF q) (hl : LXq q I) (hfa : ∀ j, j < 9 → I 9 j = fa j) (hQ : ∀ I2 : IM, (∀ x, x ≠ 10 → I2 x = I x) → Q (some (.int (nI (brL q fa (q.1) 0)))) n I2 J R) : E g mX3_breaks (d + 2) 0 0 0 (ent 2 [.ref 3]) [] n I J R Q := by
  have key : ∀ (e r : Nat), r + e = q.1 → ∀ I2 : IM, (∀ x, x ≠ 10 → I2 x = I x) → (∀ I5 : IM, (∀ x, x ≠ 10 → I5 x = I x) → Q (some (.int (nI (brL q fa e r)))) n I5 J R) → E g mX3_breaks (d + 2) 0 0 2 [.ref 3, .int (nI r)] [] n I2 J R Q := by
    intro e
    induction e with
    | zero =>
      intro r hre I2 hv hQ
      have q1 := hq.1
      refine E_iload_n dX3_breaks_2 rfl ?_
      refine E_aload_n dX3_breaks_3 rfl ?_
      refine E_getI dX3_breaks_4 f_X3_41 rfl (Nat.lt_of_lt_of_le (by decide) hN) rfl ?_
      refine E.top ((congrFun (hv 3 (by decide)) 7).trans hl.1) ?_
      refine E_cN_ge (a := r) (b := q.1) (tgt := 48) dX3_breaks_7 (by omega) (by omega) (by decide) (fun cw7 => ?_) (fun cw7 => absurd cw7 (by omega))
      refine E_ic (nI 0) dX3_breaks_48 (by decide) ?_
      exact E_zret dX3_breaks_49 rfl (by decide) (hQ I2 hv)
    | succ e ih =>
      intro r hre I2 hv hQ
      have hr : r < q.1 := by omega
      have q1 := hq.1
      obtain ⟨l1, l2, l3, l4, l5, l6⟩ := hq.2.2.2 r hr
      have q2 := hq.2.1
      by_cases hne : q.2.1 r = 120
      · rcases l6 fa with hc | hc
        · skip
          refine E_iload_n dX3_breaks_2 rfl ?_
          refine E_aload_n dX3_breaks_3 rfl ?_
          refine E_getI dX3_breaks_4 f_X3_41 rfl (Nat.lt_of_lt_of_le (by decide) hN) rfl ?_
          refine E.top ((congrFun (hv 3 (by decide)) 7).trans hl.1) ?_
          refine E_cN_ge (a := r) (b := q.1) (tgt := 48) dX3_breaks_7 (by omega) (by omega) (by decide) (fun cw7 => absurd cw7 (by omega)) (fun cw7 => ?_)
          refine E_aload_n dX3_breaks_10 rfl ?_
          refine E_getR dX3_breaks_11 f_X3_15 rfl (Nat.lt_of_lt_of_le (by decide) hN) rfl (hR _ _ _ rfl) ?_
          refine E_iload_n dX3_breaks_14 rfl ?_
          refine E_ialdN dX3_breaks_15 rfl (Nat.lt_of_lt_of_le (by decide) hN) (by have := hq.1; omega) ?_
          refine E.top ((congrFun (hv 5 (by decide)) r).trans (hl.2.1 r hr).1) ?_
          refine E_bp (nI 120) dX3_breaks_16 (by decide) ?_
          refine E_cN_ne (a := q.2.1 r) (b := 120) (tgt := 42) dX3_breaks_18 (by omega) (by omega) (by decide) (fun cw18 => absurd cw18 (by omega)) (fun cw18 => ?_)
          refine E_aload_n dX3_breaks_21 rfl ?_
          refine E_aload_n dX3_breaks_22 rfl ?_
          refine E_getR dX3_breaks_23 f_X3_21 rfl (Nat.lt_of_lt_of_le (by decide) hN) rfl (hR _ _ _ rfl) ?_
          refine E_iload_n dX3_breaks_26 rfl ?_
          refine E_ialdN dX3_breaks_27 rfl (Nat.lt_of_lt_of_le (by decide) hN) (by have := hq.1; omega) ?_
          refine E.top ((congrFun (hv 7 (by decide)) r).trans (hl.2.1 r hr).2.2.1) ?_
          refine E_aload_n dX3_breaks_28 rfl ?_
          refine E_getR dX3_breaks_29 f_X3_24 rfl (Nat.lt_of_lt_of_le (by decide) hN) rfl (hR _ _ _ rfl) ?_
          refine E_iload_n dX3_breaks_32 rfl ?_
          refine E_ialdN dX3_breaks_33 rfl (Nat.lt_of_lt_of_le (by decide) hN) (by have := hq.1; omega) ?_
          refine E.top ((congrFun (hv 8 (by decide)) r).trans (hl.2.1 r hr).2.2.2) ?_
          refine E_callV (As := [_, _]) (ci := 3) (kc' := 0) (ks' := 0) (kc := 0) (ks := 0) dX3_breaks_34 ok_X3_reckon w_X3_51 i_X3_reckon s_X3_reckon rfl (by decide) rfl (Nat.lt_of_lt_of_le (by decide) hN) rfl rfl rfl (Nat.le_of_ble_eq_true rfl) (Nat.le_of_ble_eq_true rfl) (Nat.le_refl _) (x_reckon (d := d) (code := q.2.2.2.2.2.1) (fa := fa) (fr := (q.2.2.2.1 r)) (to := (q.2.2.2.2.1 r)) hN hR (by omega) (by omega) (hq.2.2.1.le (by omega)) (hc) (fun i hi => (congrFun (hv 4 (by decide)) i).trans (hl.2.2 i (by omega))) (fun j hj => (congrFun (hv 9 (by decide)) j).trans (hfa j hj)) (fun I4 f_I4 => ?_))
          refine E_zN_eq (a := 0) (tgt := 42) dX3_breaks_37 (by decide) (by decide) (fun cw37 => ?_) (fun cw37 => absurd cw37 (by omega))
          refine E_incN dX3_breaks_42 rfl ?_
          refine E_goto (tgt := 2) dX3_breaks_45 (by decide) ?_
          refine ih (r + 1) (by omega) I4 (fun x hx => (f_I4 x hx).trans (hv x hx)) ?_
          rw [show brL q fa (e + 1) r = brL q fa e (r + 1) from if_neg (fun z => by have := z.2; rw [hc] at this; exact absurd (Option.some.inj this) (by decide))] at hQ
          exact hQ
        · skip
          refine E_iload_n dX3_breaks_2 rfl ?_
          refine E_aload_n dX3_breaks_3 rfl ?_
          refine E_getI dX3_breaks_4 f_X3_41 rfl (Nat.lt_of_lt_of_le (by decide) hN) rfl ?_
          refine E.top ((congrFun (hv 3 (by decide)) 7).trans hl.1) ?_
          refine E_cN_ge (a := r) (b := q.1) (tgt := 48) dX3_breaks_7 (by omega) (by omega) (by decide) (fun cw7 => absurd cw7 (by omega)) (fun cw7 => ?_)
          refine E_aload_n dX3_breaks_10 rfl ?_
          refine E_getR dX3_breaks_11 f_X3_15 rfl (Nat.lt_of_lt_of_le (by decide) hN) rfl (hR _ _ _ rfl) ?_
          refine E_iload_n dX3_breaks_14 rfl ?_
          refine E_ialdN dX3_breaks_15 rfl (Nat.lt_of_lt_of_le (by decide) hN) (by have := hq.1; omega) ?_
          refine E.top ((congrFun (hv 5 (by decide)) r).trans (hl.2.1 r hr).1) ?_
          refine E_bp (nI 120) dX3_breaks_16 (by decide) ?_
          refine E_cN_ne (a := q.2.1 r) (b := 120) (tgt := 42) dX3_breaks_18 (by omega) (by omega) (by decide) (fun cw18 => absurd cw18 (by omega)) (fun cw18 => ?_)
          refine E_aload_n dX3_breaks_21 rfl ?_
          refine E_aload_n dX3_breaks_22 rfl ?_
          refine E_getR dX3_breaks_23 f_X3_21 rfl (Nat.lt_of_lt_of_le (by decide) hN) rfl (hR _ _ _ rfl) ?_
          refine E_iload_n dX3_breaks_26 rfl ?_
          refine E_ialdN dX3_breaks_27 rfl (Nat.lt_of_lt_of_le (by decide) hN) (by have := hq.1; omega) ?_
          refine E.top ((congrFun (hv 7 (by decide)) r).trans (hl.2.1 r hr).2.2.1) ?_
          refine E_aload_n dX3_breaks_28 rfl ?_
          refine E_getR dX3_breaks_29 f_X3_24 rfl (Nat.lt_of_lt_of_le (by decide) hN) rfl (hR _ _ _ rfl) ?_
          refine E_iload_n dX3_breaks_32 rfl ?_
          refine E_ialdN dX3_breaks_33 rfl (Nat.lt_of_lt_of_le (by decide) hN) (by have := hq.1; omega) ?_
          refine E.top ((congrFun (hv 8 (by decide)) r).trans (hl.2.1 r hr).2.2.2) ?_
          refine E_callV (As := [_, _]) (ci := 3) (kc' := 0) (ks' := 0) (kc := 0) (ks := 0) dX3_breaks_34 ok_X3_reckon w_X3_51 i_X3_reckon s_X3_reckon rfl (by decide) rfl (Nat.lt_of_lt_of_le (by decide) hN) rfl rfl rfl (Nat.le_of_ble_eq_true rfl) (Nat.le_of_ble_eq_true rfl) (Nat.le_refl _) (x_reckon (d := d) (code := q.2.2.2.2.2.1) (fa := fa) (fr := (q.2.2.2.1 r)) (to := (q.2.2.2.2.1 r)) hN hR (by omega) (by omega) (hq.2.2.1.le (by omega)) (hc) (fun i hi => (congrFun (hv 4 (by decide)) i).trans (hl.2.2 i (by omega))) (fun j hj => (congrFun (hv 9 (by decide)) j).trans (hfa j hj)) (fun I4 f_I4 => ?_))
          refine E_zN_eq (a := 1) (tgt := 42) dX3_breaks_37 (by decide) (by decide) (fun cw37 => absurd cw37 (by omega)) (fun cw37 => ?_)
          refine E_ic (nI 1) dX3_breaks_40 (by decide) ?_
          exact E_zret dX3_breaks_41 rfl (by decide) (by rw [show brL q fa (e + 1) r = 1 from if_pos ⟨hne, hc⟩] at hQ; exact hQ I4 (fun x hx => (f_I4 x hx).trans (hv x hx)))
      · skip
        refine E_iload_n dX3_breaks_2 rfl ?_
        refine E_aload_n dX3_breaks_3 rfl ?_
        refine E_getI dX3_breaks_4 f_X3_41 rfl (Nat.lt_of_lt_of_le (by decide) hN) rfl ?_
        refine E.top ((congrFun (hv 3 (by decide)) 7).trans hl.1) ?_
        refine E_cN_ge (a := r) (b := q.1) (tgt := 48) dX3_breaks_7 (by omega) (by omega) (by decide) (fun cw7 => absurd cw7 (by omega)) (fun cw7 => ?_)
        refine E_aload_n dX3_breaks_10 rfl ?_
        refine E_getR dX3_breaks_11 f_X3_15 rfl (Nat.lt_of_lt_of_le (by decide) hN) rfl (hR _ _ _ rfl) ?_
        refine E_iload_n dX3_breaks_14 rfl ?_
        refine E_ialdN dX3_breaks_15 rfl (Nat.lt_of_lt_of_le (by decide) hN) (by have := hq.1; omega) ?_
        refine E.top ((congrFun (hv 5 (by decide)) r).trans (hl.2.1 r hr).1) ?_
        refine E_bp (nI 120) dX3_breaks_16 (by decide) ?_
        refine E_cN_ne (a := q.2.1 r) (b := 120) (tgt := 42) dX3_breaks_18 (by omega) (by omega) (by decide) (fun cw18 => ?_) (fun cw18 => absurd cw18 (by omega))
        refine E_incN dX3_breaks_42 rfl ?_
        refine E_goto (tgt := 2) dX3_breaks_45 (by decide) ?_
        refine ih (r + 1) (by omega) I2 (hv) ?_
        rw [show brL q fa (e + 1) r = brL q fa e (r + 1) from if_neg (fun z => hne z.1)] at hQ
        exact hQ
  refine E_ic (nI 0) dX3_breaks_0 (by decide) ?_
  refine E_istore_n dX3_breaks_1 (Nat.le_of_ble_eq_true rfl) ?_
  exact key q.1 0 (Nat.zero_add _) I (fun _ _ => rfl) hQ
set_option maxRecDepth 100000 in
set_option maxHeartbeats 2000000 in
theorem m_byLaw {q : LWD} {fa : Nat → Int32} {w mo : Nat} (hN : 152 ≤ n) (hR : RS R) (hq : LWF q) (hl : LMq q I) (hfa : ∀ j, j < 9 → I 134 j = fa j) (hw : w < 256) (hw2 : w ≠ 120) (hmo : mo < 1000) (hQ : ∀ I2 : IM, (∀ x, x ≠ 133 → I2 x = I x) → Q (some (.int (nI (amL q fa w mo (q.1) 0)))) n I2 J R) : E g mX12_byLaw (d + 2) 0 0 0 (ent 5 [.ref 114, .int (nI w), .int (nI mo)]) [] n I J R Q := by
  have key : ∀ (e r : Nat), r + e = q.1 → ∀ I2 : IM, (∀ x, x ≠ 133 → I2 x = I x) → (∀ I5 : IM, (∀ x, x ≠ 133 → I5 x = I x) → Q (some (.int (nI (amL q fa w mo e r)))) n I5 J R) → E g mX12_byLaw (d + 2) 0 0 2 [.ref 114, .int (nI w), .int (nI mo), .int (nI r), jk] [] n I2 J R Q := by
    intro e
    induction e with
    | zero =>
      intro r hre I2 hv hQ
      have q1 := hq.1
      refine E_iload_n dX12_byLaw_2 rfl ?_
      refine E_aload_n dX12_byLaw_3 rfl ?_
      refine E_getI dX12_byLaw_4 f_X12_231 rfl (Nat.lt_of_lt_of_le (by decide) hN) rfl ?_
      refine E.top ((congrFun (hv 114 (by decide)) 16).trans hl.1) ?_
      refine E_cN_ge (a := r) (b := q.1) (tgt := 89) dX12_byLaw_7 (by omega) (by omega) (by decide) (fun cw7 => ?_) (fun cw7 => absurd cw7 (by omega))
      refine E_ic (nI 0) dX12_byLaw_89 (by decide) ?_
      exact E_iret dX12_byLaw_90 rfl (hQ I2 hv)
    | succ e ih =>
      intro r hre I2 hv hQ
      have hr : r < q.1 := by omega
      have q1 := hq.1
      obtain ⟨l1, l2, l3, l4, l5, l6⟩ := hq.2.2.2 r hr
      have q2 := hq.2.1
      by_cases hne : q.2.1 r = w
      · rcases l6 fa with hc | hc
        · skip
          refine E_iload_n dX12_byLaw_2 rfl ?_
          refine E_aload_n dX12_byLaw_3 rfl ?_
          refine E_getI dX12_byLaw_4 f_X12_231 rfl (Nat.lt_of_lt_of_le (by decide) hN) rfl ?_
          refine E.top ((congrFun (hv 114 (by decide)) 16).trans hl.1) ?_
          refine E_cN_ge (a := r) (b := q.1) (tgt := 89) dX12_byLaw_7 (by omega) (by omega) (by decide) (fun cw7 => absurd cw7 (by omega)) (fun cw7 => ?_)
          refine E_aload_n dX12_byLaw_10 rfl ?_
          refine E_getR dX12_byLaw_11 f_X12_53 rfl (Nat.lt_of_lt_of_le (by decide) hN) rfl (hR _ _ _ rfl) ?_
          refine E_iload_n dX12_byLaw_14 rfl ?_
          refine E_ialdN dX12_byLaw_15 rfl (Nat.lt_of_lt_of_le (by decide) hN) (by have := hq.1; omega) ?_
          refine E.top ((congrFun (hv 129 (by decide)) r).trans (hl.2.1 r hr).1) ?_
          refine E_iload_n dX12_byLaw_16 rfl ?_
          refine E_cN_ne (a := q.2.1 r) (b := w) (tgt := 83) dX12_byLaw_17 (by omega) (by omega) (by decide) (fun cw17 => absurd cw17 (by omega)) (fun cw17 => ?_)
          refine E_aload_n dX12_byLaw_20 rfl ?_
          refine E_aload_n dX12_byLaw_21 rfl ?_
          refine E_getR dX12_byLaw_22 f_X12_59 rfl (Nat.lt_of_lt_of_le (by decide) hN) rfl (hR _ _ _ rfl) ?_
          refine E_iload_n dX12_byLaw_25 rfl ?_
          refine E_ialdN dX12_byLaw_26 rfl (Nat.lt_of_lt_of_le (by decide) hN) (by have := hq.1; omega) ?_
          refine E.top ((congrFun (hv 131 (by decide)) r).trans (hl.2.1 r hr).2.2.1) ?_
          refine E_aload_n dX12_byLaw_27 rfl ?_
          refine E_getR dX12_byLaw_28 f_X12_62 rfl (Nat.lt_of_lt_of_le (by decide) hN) rfl (hR _ _ _ rfl) ?_
          refine E_iload_n dX12_byLaw_31 rfl ?_
          refine E_ialdN dX12_byLaw_32 rfl (Nat.lt_of_lt_of_le (by decide) hN) (by have := hq.1; omega) ?_
          refine E.top ((congrFun (hv 132 (by decide)) r).trans (hl.2.1 r hr).2.2.2) ?_
          refine E_callV (As := [_, _]) (ci := 11) (kc' := 0) (ks' := 0) (kc := 0) (ks := 0) dX12_byLaw_33 ok_X12_reckonsTo w_X12_238 i_X12_reckonsTo s_X12_reckonsTo rfl (by decide) rfl (Nat.lt_of_lt_of_le (by decide) hN) rfl rfl rfl (Nat.le_of_ble_eq_true rfl) (Nat.le_of_ble_eq_true rfl) (Nat.le_refl _) (m_reckonsTo (d := d) (code := q.2.2.2.2.2.1) (fa := fa) (fr := (q.2.2.2.1 r)) (to := (q.2.2.2.2.1 r)) hN hR (by omega) (by omega) (hq.2.2.1.le (by omega)) (hc) (fun i hi => (congrFun (hv 128 (by decide)) i).trans (hl.2.2 i (by omega))) (fun j hj => (congrFun (hv 134 (by decide)) j).trans (hfa j hj)) (fun I4 f_I4 => ?_))
          refine E_ic (nI 1) dX12_byLaw_36 (by decide) ?_
          refine E_cN_eq (a := 0) (b := 1) (tgt := 43) dX12_byLaw_37 (by decide) (by decide) (by decide) (fun cw37 => absurd cw37 (by omega)) (fun cw37 => ?_)
          refine E_goto (tgt := 83) dX12_byLaw_40 (by decide) ?_
          refine E_incN dX12_byLaw_83 rfl ?_
          refine E_goto (tgt := 2) dX12_byLaw_86 (by decide) ?_
          refine ih (r + 1) (by omega) I4 (fun x hx => (f_I4 x hx).trans (hv x hx)) ?_
          rw [show amL q fa w mo (e + 1) r = amL q fa w mo e (r + 1) from if_neg (fun z => by have := z.2; rw [hc] at this; exact absurd (Option.some.inj this) (by decide))] at hQ
          exact hQ
        · skip
          obtain ⟨v, he⟩ := l5 (by rw [hne]; exact hw2) fa
          refine E_iload_n dX12_byLaw_2 rfl ?_
          refine E_aload_n dX12_byLaw_3 rfl ?_
          refine E_getI dX12_byLaw_4 f_X12_231 rfl (Nat.lt_of_lt_of_le (by decide) hN) rfl ?_
          refine E.top ((congrFun (hv 114 (by decide)) 16).trans hl.1) ?_
          refine E_cN_ge (a := r) (b := q.1) (tgt := 89) dX12_byLaw_7 (by omega) (by omega) (by decide) (fun cw7 => absurd cw7 (by omega)) (fun cw7 => ?_)
          refine E_aload_n dX12_byLaw_10 rfl ?_
          refine E_getR dX12_byLaw_11 f_X12_53 rfl (Nat.lt_of_lt_of_le (by decide) hN) rfl (hR _ _ _ rfl) ?_
          refine E_iload_n dX12_byLaw_14 rfl ?_
          refine E_ialdN dX12_byLaw_15 rfl (Nat.lt_of_lt_of_le (by decide) hN) (by have := hq.1; omega) ?_
          refine E.top ((congrFun (hv 129 (by decide)) r).trans (hl.2.1 r hr).1) ?_
          refine E_iload_n dX12_byLaw_16 rfl ?_
          refine E_cN_ne (a := q.2.1 r) (b := w) (tgt := 83) dX12_byLaw_17 (by omega) (by omega) (by decide) (fun cw17 => absurd cw17 (by omega)) (fun cw17 => ?_)
          refine E_aload_n dX12_byLaw_20 rfl ?_
          refine E_aload_n dX12_byLaw_21 rfl ?_
          refine E_getR dX12_byLaw_22 f_X12_59 rfl (Nat.lt_of_lt_of_le (by decide) hN) rfl (hR _ _ _ rfl) ?_
          refine E_iload_n dX12_byLaw_25 rfl ?_
          refine E_ialdN dX12_byLaw_26 rfl (Nat.lt_of_lt_of_le (by decide) hN) (by have := hq.1; omega) ?_
          refine E.top ((congrFun (hv 131 (by decide)) r).trans (hl.2.1 r hr).2.2.1) ?_
          refine E_aload_n dX12_byLaw_27 rfl ?_
          refine E_getR dX12_byLaw_28 f_X12_62 rfl (Nat.lt_of_lt_of_le (by decide) hN) rfl (hR _ _ _ rfl) ?_
          refine E_iload_n dX12_byLaw_31 rfl ?_
          refine E_ialdN dX12_byLaw_32 rfl (Nat.lt_of_lt_of_le (by decide) hN) (by have := hq.1; omega) ?_
          refine E.top ((congrFun (hv 132 (by decide)) r).trans (hl.2.1 r hr).2.2.2) ?_
          refine E_callV (As := [_, _]) (ci := 11) (kc' := 0) (ks' := 0) (kc := 0) (ks := 0) dX12_byLaw_33 ok_X12_reckonsTo w_X12_238 i_X12_reckonsTo s_X12_reckonsTo rfl (by decide) rfl (Nat.lt_of_lt_of_le (by decide) hN) rfl rfl rfl (Nat.le_of_ble_eq_true rfl) (Nat.le_of_ble_eq_true rfl) (Nat.le_refl _) (m_reckonsTo (d := d) (code := q.2.2.2.2.2.1) (fa := fa) (fr := (q.2.2.2.1 r)) (to := (q.2.2.2.2.1 r)) hN hR (by omega) (by omega) (hq.2.2.1.le (by omega)) (hc) (fun i hi => (congrFun (hv 128 (by decide)) i).trans (hl.2.2 i (by omega))) (fun j hj => (congrFun (hv 134 (by decide)) j).trans (hfa j hj)) (fun I4 f_I4 => ?_))
          refine E_ic (nI 1) dX12_byLaw_36 (by decide) ?_
          refine E_cN_eq (a := 1) (b := 1) (tgt := 43) dX12_byLaw_37 (by decide) (by decide) (by decide) (fun cw37 => ?_) (fun cw37 => absurd cw37 (by omega))
          refine E_aload_n dX12_byLaw_43 rfl ?_
          refine E_aload_n dX12_byLaw_44 rfl ?_
          refine E_getR dX12_byLaw_45 f_X12_56 rfl (Nat.lt_of_lt_of_le (by decide) hN) rfl (hR _ _ _ rfl) ?_
          refine E_iload_n dX12_byLaw_48 rfl ?_
          refine E_ialdN dX12_byLaw_49 rfl (Nat.lt_of_lt_of_le (by decide) hN) (by have := hq.1; omega) ?_
          refine E.top ((congrFun ((f_I4 130 (by decide)).trans (hv 130 (by decide))) r).trans (hl.2.1 r hr).2.1) ?_
          refine E_aload_n dX12_byLaw_50 rfl ?_
          refine E_getR dX12_byLaw_51 f_X12_59 rfl (Nat.lt_of_lt_of_le (by decide) hN) rfl (hR _ _ _ rfl) ?_
          refine E_iload_n dX12_byLaw_54 rfl ?_
          refine E_ialdN dX12_byLaw_55 rfl (Nat.lt_of_lt_of_le (by decide) hN) (by have := hq.1; omega) ?_
          refine E.top ((congrFun ((f_I4 131 (by decide)).trans (hv 131 (by decide))) r).trans (hl.2.1 r hr).2.2.1) ?_
          refine E_callV (As := [_, _]) (ci := 11) (kc' := 0) (ks' := 0) (kc := 0) (ks := 0) dX12_byLaw_56 ok_X12_reckonsTo w_X12_238 i_X12_reckonsTo s_X12_reckonsTo rfl (by decide) rfl (Nat.lt_of_lt_of_le (by decide) hN) rfl rfl rfl (Nat.le_of_ble_eq_true rfl) (Nat.le_of_ble_eq_true rfl) (Nat.le_refl _) (m_reckonsTo (d := d) (code := q.2.2.2.2.2.1) (fa := fa) (fr := (q.2.2.1 r)) (to := (q.2.2.2.1 r)) hN hR (by omega) (by omega) (hq.2.2.1.le (by omega)) (he) (fun i hi => (congrFun ((fun y hy => (f_I4 y hy).trans (hv y hy) : ∀ y, y ≠ 133 → I4 y = I y) 128 (by decide)) i).trans (hl.2.2 i (by omega))) (fun j hj => (congrFun ((fun y hy => (f_I4 y hy).trans (hv y hy) : ∀ y, y ≠ 133 → I4 y = I y) 134 (by decide)) j).trans (hfa j hj)) (fun I5 f_I5 => ?_))
          refine E_istore dX12_byLaw_59 (Nat.le_of_ble_eq_true rfl) ?_
          refine E_iload dX12_byLaw_61 rfl ?_
          refine E_if_ge (tgt := 70) dX12_byLaw_63 (by decide) (fun cw63 => ?_) (fun cw63 => ?_)
          · refine E_iload dX12_byLaw_70 rfl ?_
            refine E_iload_n dX12_byLaw_72 rfl ?_
            refine E_icmp_le (tgt := 80) dX12_byLaw_73 (by decide) (fun cw73 => ?_) (fun cw73 => ?_)
            · refine E_iload dX12_byLaw_80 rfl ?_
              exact E_iret dX12_byLaw_82 rfl (by
                          rw [show amL q fa w mo (e + 1) r = clN v mo from (if_pos ⟨hne, hc⟩).trans (by rw [he]; rfl)] at hQ
                          have hq5 := hQ I5 (fun x hx => (f_I5 x hx).trans ((f_I4 x hx).trans (hv x hx)))
                          first
                          | (rw [show clN v mo = 0 from if_pos (Int32.not_le.mp cw63)] at hq5; exact hq5)
                          | (obtain ⟨j, hj, rfl⟩ := nI_of (Int32.not_lt.mpr cw63)
                             have h1 : ¬ j ≤ mo := fun z => cw73 (nI_le z (by omega))
                             rw [show clN (nI j) mo = mo from (if_neg (Int32.not_lt.mpr cw63)).trans (by rw [nI_clamp hj]; omega)] at hq5
                             exact hq5)
                          | (obtain ⟨j, hj, rfl⟩ := nI_of (Int32.not_lt.mpr cw63)
                             have h1 : j ≤ mo := (nI_leI hj (by omega)).mp cw73
                             rw [show clN (nI j) mo = j from (if_neg (Int32.not_lt.mpr cw63)).trans (by rw [nI_clamp hj]; omega)] at hq5
                             exact hq5))
            · refine E_iload_n dX12_byLaw_76 rfl ?_
              refine E_goto (tgt := 82) dX12_byLaw_77 (by decide) ?_
              exact E_iret dX12_byLaw_82 rfl (by
                          rw [show amL q fa w mo (e + 1) r = clN v mo from (if_pos ⟨hne, hc⟩).trans (by rw [he]; rfl)] at hQ
                          have hq5 := hQ I5 (fun x hx => (f_I5 x hx).trans ((f_I4 x hx).trans (hv x hx)))
                          first
                          | (rw [show clN v mo = 0 from if_pos (Int32.not_le.mp cw63)] at hq5; exact hq5)
                          | (obtain ⟨j, hj, rfl⟩ := nI_of (Int32.not_lt.mpr cw63)
                             have h1 : ¬ j ≤ mo := fun z => cw73 (nI_le z (by omega))
                             rw [show clN (nI j) mo = mo from (if_neg (Int32.not_lt.mpr cw63)).trans (by rw [nI_clamp hj]; omega)] at hq5
                             exact hq5)
                          | (obtain ⟨j, hj, rfl⟩ := nI_of (Int32.not_lt.mpr cw63)
                             have h1 : j ≤ mo := (nI_leI hj (by omega)).mp cw73
                             rw [show clN (nI j) mo = j from (if_neg (Int32.not_lt.mpr cw63)).trans (by rw [nI_clamp hj]; omega)] at hq5
                             exact hq5))
          · refine E_ic (nI 0) dX12_byLaw_66 (by decide) ?_
            refine E_goto (tgt := 82) dX12_byLaw_67 (by decide) ?_
            exact E_iret dX12_byLaw_82 rfl (by
                        rw [show amL q fa w mo (e + 1) r = clN v mo from (if_pos ⟨hne, hc⟩).trans (by rw [he]; rfl)] at hQ
                        have hq5 := hQ I5 (fun x hx => (f_I5 x hx).trans ((f_I4 x hx).trans (hv x hx)))
                        first
                        | (rw [show clN v mo = 0 from if_pos (Int32.not_le.mp cw63)] at hq5; exact hq5)
                        | (obtain ⟨j, hj, rfl⟩ := nI_of (Int32.not_lt.mpr cw63)
                           have h1 : ¬ j ≤ mo := fun z => cw73 (nI_le z (by omega))
                           rw [show clN (nI j) mo = mo from (if_neg (Int32.not_lt.mpr cw63)).trans (by rw [nI_clamp hj]; omega)] at hq5
                           exact hq5)
                        | (obtain ⟨j, hj, rfl⟩ := nI_of (Int32.not_lt.mpr cw63)
                           have h1 : j ≤ mo := (nI_leI hj (by omega)).mp cw73
                           rw [show clN (nI j) mo = j from (if_neg (Int32.not_lt.mpr cw63)).trans (by rw [nI_clamp hj]; omega)] at hq5
                           exact hq5))
      · skip
        refine E_iload_n dX12_byLaw_2 rfl ?_
        refine E_aload_n dX12_byLaw_3 rfl ?_
        refine E_getI dX12_byLaw_4 f_X12_231 rfl (Nat.lt_of_lt_of_le (by decide) hN) rfl ?_
        refine E.top ((congrFun (hv 114 (by decide)) 16).trans hl.1) ?_
        refine E_cN_ge (a := r) (b := q.1) (tgt := 89) dX12_byLaw_7 (by omega) (by omega) (by decide) (fun cw7 => absurd cw7 (by omega)) (fun cw7 => ?_)
        refine E_aload_n dX12_byLaw_10 rfl ?_
        refine E_getR dX12_byLaw_11 f_X12_53 rfl (Nat.lt_of_lt_of_le (by decide) hN) rfl (hR _ _ _ rfl) ?_
        refine E_iload_n dX12_byLaw_14 rfl ?_
        refine E_ialdN dX12_byLaw_15 rfl (Nat.lt_of_lt_of_le (by decide) hN) (by have := hq.1; omega) ?_
        refine E.top ((congrFun (hv 129 (by decide)) r).trans (hl.2.1 r hr).1) ?_
        refine E_iload_n dX12_byLaw_16 rfl ?_
        refine E_cN_ne (a := q.2.1 r) (b := w) (tgt := 83) dX12_byLaw_17 (by omega) (by omega) (by decide) (fun cw17 => ?_) (fun cw17 => absurd cw17 (by omega))
        refine E_incN dX12_byLaw_83 rfl ?_
        refine E_goto (tgt := 2) dX12_byLaw_86 (by decide) ?_
        refine ih (r + 1) (by omega) I2 (hv) ?_
        rw [show amL q fa w mo (e + 1) r = amL q fa w mo e (r + 1) from if_neg (fun z => hne z.1)] at hQ
        exact hQ
  refine E_ic (nI 0) dX12_byLaw_0 (by decide) ?_
  refine E_istore_n dX12_byLaw_1 (Nat.le_of_ble_eq_true rfl) ?_
  exact key q.1 0 (Nat.zero_add _) I (fun _ _ => rfl) hQ
set_option maxRecDepth 100000 in
set_option maxHeartbeats 2000000 in
theorem m_holdsAny {q : LWD} {fa : Nat → Int32} (hN : 152 ≤ n) (hR : RS R) (hq : LWF q) (hl : LMq q I) (hfa : ∀ j, j < 9 → I 134 j = fa j) (hQ : ∀ I2 : IM, (∀ x, x ≠ 133 → I2 x = I x) → Q (some (.int (nI (brL q fa (q.1) 0)))) n I2 J R) : E g mX12_holdsAny (d + 2) 0 0 0 (ent 3 [.ref 114, .int (nI 120)]) [] n I J R Q := by
  have key : ∀ (e r : Nat), r + e = q.1 → ∀ I2 : IM, (∀ x, x ≠ 133 → I2 x = I x) → (∀ I5 : IM, (∀ x, x ≠ 133 → I5 x = I x) → Q (some (.int (nI (brL q fa e r)))) n I5 J R) → E g mX12_holdsAny (d + 2) 0 0 2 [.ref 114, .int (nI 120), .int (nI r)] [] n I2 J R Q := by
    intro e
    induction e with
    | zero =>
      intro r hre I2 hv hQ
      have q1 := hq.1
      refine E_iload_n dX12_holdsAny_2 rfl ?_
      refine E_aload_n dX12_holdsAny_3 rfl ?_
      refine E_getI dX12_holdsAny_4 f_X12_231 rfl (Nat.lt_of_lt_of_le (by decide) hN) rfl ?_
      refine E.top ((congrFun (hv 114 (by decide)) 16).trans hl.1) ?_
      refine E_cN_ge (a := r) (b := q.1) (tgt := 48) dX12_holdsAny_7 (by omega) (by omega) (by decide) (fun cw7 => ?_) (fun cw7 => absurd cw7 (by omega))
      refine E_ic (nI 0) dX12_holdsAny_48 (by decide) ?_
      exact E_zret dX12_holdsAny_49 rfl (by decide) (hQ I2 hv)
    | succ e ih =>
      intro r hre I2 hv hQ
      have hr : r < q.1 := by omega
      have q1 := hq.1
      obtain ⟨l1, l2, l3, l4, l5, l6⟩ := hq.2.2.2 r hr
      have q2 := hq.2.1
      by_cases hne : q.2.1 r = 120
      · rcases l6 fa with hc | hc
        · skip
          refine E_iload_n dX12_holdsAny_2 rfl ?_
          refine E_aload_n dX12_holdsAny_3 rfl ?_
          refine E_getI dX12_holdsAny_4 f_X12_231 rfl (Nat.lt_of_lt_of_le (by decide) hN) rfl ?_
          refine E.top ((congrFun (hv 114 (by decide)) 16).trans hl.1) ?_
          refine E_cN_ge (a := r) (b := q.1) (tgt := 48) dX12_holdsAny_7 (by omega) (by omega) (by decide) (fun cw7 => absurd cw7 (by omega)) (fun cw7 => ?_)
          refine E_aload_n dX12_holdsAny_10 rfl ?_
          refine E_getR dX12_holdsAny_11 f_X12_53 rfl (Nat.lt_of_lt_of_le (by decide) hN) rfl (hR _ _ _ rfl) ?_
          refine E_iload_n dX12_holdsAny_14 rfl ?_
          refine E_ialdN dX12_holdsAny_15 rfl (Nat.lt_of_lt_of_le (by decide) hN) (by have := hq.1; omega) ?_
          refine E.top ((congrFun (hv 129 (by decide)) r).trans (hl.2.1 r hr).1) ?_
          refine E_iload_n dX12_holdsAny_16 rfl ?_
          refine E_cN_ne (a := q.2.1 r) (b := 120) (tgt := 42) dX12_holdsAny_17 (by omega) (by omega) (by decide) (fun cw17 => absurd cw17 (by omega)) (fun cw17 => ?_)
          refine E_aload_n dX12_holdsAny_20 rfl ?_
          refine E_aload_n dX12_holdsAny_21 rfl ?_
          refine E_getR dX12_holdsAny_22 f_X12_59 rfl (Nat.lt_of_lt_of_le (by decide) hN) rfl (hR _ _ _ rfl) ?_
          refine E_iload_n dX12_holdsAny_25 rfl ?_
          refine E_ialdN dX12_holdsAny_26 rfl (Nat.lt_of_lt_of_le (by decide) hN) (by have := hq.1; omega) ?_
          refine E.top ((congrFun (hv 131 (by decide)) r).trans (hl.2.1 r hr).2.2.1) ?_
          refine E_aload_n dX12_holdsAny_27 rfl ?_
          refine E_getR dX12_holdsAny_28 f_X12_62 rfl (Nat.lt_of_lt_of_le (by decide) hN) rfl (hR _ _ _ rfl) ?_
          refine E_iload_n dX12_holdsAny_31 rfl ?_
          refine E_ialdN dX12_holdsAny_32 rfl (Nat.lt_of_lt_of_le (by decide) hN) (by have := hq.1; omega) ?_
          refine E.top ((congrFun (hv 132 (by decide)) r).trans (hl.2.1 r hr).2.2.2) ?_
          refine E_callV (As := [_, _]) (ci := 11) (kc' := 0) (ks' := 0) (kc := 0) (ks := 0) dX12_holdsAny_33 ok_X12_reckonsTo w_X12_238 i_X12_reckonsTo s_X12_reckonsTo rfl (by decide) rfl (Nat.lt_of_lt_of_le (by decide) hN) rfl rfl rfl (Nat.le_of_ble_eq_true rfl) (Nat.le_of_ble_eq_true rfl) (Nat.le_refl _) (m_reckonsTo (d := d) (code := q.2.2.2.2.2.1) (fa := fa) (fr := (q.2.2.2.1 r)) (to := (q.2.2.2.2.1 r)) hN hR (by omega) (by omega) (hq.2.2.1.le (by omega)) (hc) (fun i hi => (congrFun (hv 128 (by decide)) i).trans (hl.2.2 i (by omega))) (fun j hj => (congrFun (hv 134 (by decide)) j).trans (hfa j hj)) (fun I4 f_I4 => ?_))
          refine E_ic (nI 1) dX12_holdsAny_36 (by decide) ?_
          refine E_cN_ne (a := 0) (b := 1) (tgt := 42) dX12_holdsAny_37 (by decide) (by decide) (by decide) (fun cw37 => ?_) (fun cw37 => absurd cw37 (by omega))
          refine E_incN dX12_holdsAny_42 rfl ?_
          refine E_goto (tgt := 2) dX12_holdsAny_45 (by decide) ?_
          refine ih (r + 1) (by omega) I4 (fun x hx => (f_I4 x hx).trans (hv x hx)) ?_
          rw [show brL q fa (e + 1) r = brL q fa e (r + 1) from if_neg (fun z => by have := z.2; rw [hc] at this; exact absurd (Option.some.inj this) (by decide))] at hQ
          exact hQ
        · skip
          refine E_iload_n dX12_holdsAny_2 rfl ?_
          refine E_aload_n dX12_holdsAny_3 rfl ?_
          refine E_getI dX12_holdsAny_4 f_X12_231 rfl (Nat.lt_of_lt_of_le (by decide) hN) rfl ?_
          refine E.top ((congrFun (hv 114 (by decide)) 16).trans hl.1) ?_
          refine E_cN_ge (a := r) (b := q.1) (tgt := 48) dX12_holdsAny_7 (by omega) (by omega) (by decide) (fun cw7 => absurd cw7 (by omega)) (fun cw7 => ?_)
          refine E_aload_n dX12_holdsAny_10 rfl ?_
          refine E_getR dX12_holdsAny_11 f_X12_53 rfl (Nat.lt_of_lt_of_le (by decide) hN) rfl (hR _ _ _ rfl) ?_
          refine E_iload_n dX12_holdsAny_14 rfl ?_
          refine E_ialdN dX12_holdsAny_15 rfl (Nat.lt_of_lt_of_le (by decide) hN) (by have := hq.1; omega) ?_
          refine E.top ((congrFun (hv 129 (by decide)) r).trans (hl.2.1 r hr).1) ?_
          refine E_iload_n dX12_holdsAny_16 rfl ?_
          refine E_cN_ne (a := q.2.1 r) (b := 120) (tgt := 42) dX12_holdsAny_17 (by omega) (by omega) (by decide) (fun cw17 => absurd cw17 (by omega)) (fun cw17 => ?_)
          refine E_aload_n dX12_holdsAny_20 rfl ?_
          refine E_aload_n dX12_holdsAny_21 rfl ?_
          refine E_getR dX12_holdsAny_22 f_X12_59 rfl (Nat.lt_of_lt_of_le (by decide) hN) rfl (hR _ _ _ rfl) ?_
          refine E_iload_n dX12_holdsAny_25 rfl ?_
          refine E_ialdN dX12_holdsAny_26 rfl (Nat.lt_of_lt_of_le (by decide) hN) (by have := hq.1; omega) ?_
          refine E.top ((congrFun (hv 131 (by decide)) r).trans (hl.2.1 r hr).2.2.1) ?_
          refine E_aload_n dX12_holdsAny_27 rfl ?_
          refine E_getR dX12_holdsAny_28 f_X12_62 rfl (Nat.lt_of_lt_of_le (by decide) hN) rfl (hR _ _ _ rfl) ?_
          refine E_iload_n dX12_holdsAny_31 rfl ?_
          refine E_ialdN dX12_holdsAny_32 rfl (Nat.lt_of_lt_of_le (by decide) hN) (by have := hq.1; omega) ?_
          refine E.top ((congrFun (hv 132 (by decide)) r).trans (hl.2.1 r hr).2.2.2) ?_
          refine E_callV (As := [_, _]) (ci := 11) (kc' := 0) (ks' := 0) (kc := 0) (ks := 0) dX12_holdsAny_33 ok_X12_reckonsTo w_X12_238 i_X12_reckonsTo s_X12_reckonsTo rfl (by decide) rfl (Nat.lt_of_lt_of_le (by decide) hN) rfl rfl rfl (Nat.le_of_ble_eq_true rfl) (Nat.le_of_ble_eq_true rfl) (Nat.le_refl _) (m_reckonsTo (d := d) (code := q.2.2.2.2.2.1) (fa := fa) (fr := (q.2.2.2.1 r)) (to := (q.2.2.2.2.1 r)) hN hR (by omega) (by omega) (hq.2.2.1.le (by omega)) (hc) (fun i hi => (congrFun (hv 128 (by decide)) i).trans (hl.2.2 i (by omega))) (fun j hj => (congrFun (hv 134 (by decide)) j).trans (hfa j hj)) (fun I4 f_I4 => ?_))
          refine E_ic (nI 1) dX12_holdsAny_36 (by decide) ?_
          refine E_cN_ne (a := 1) (b := 1) (tgt := 42) dX12_holdsAny_37 (by decide) (by decide) (by decide) (fun cw37 => absurd cw37 (by omega)) (fun cw37 => ?_)
          refine E_ic (nI 1) dX12_holdsAny_40 (by decide) ?_
          exact E_zret dX12_holdsAny_41 rfl (by decide) (by rw [show brL q fa (e + 1) r = 1 from if_pos ⟨hne, hc⟩] at hQ; exact hQ I4 (fun x hx => (f_I4 x hx).trans (hv x hx)))
      · skip
        refine E_iload_n dX12_holdsAny_2 rfl ?_
        refine E_aload_n dX12_holdsAny_3 rfl ?_
        refine E_getI dX12_holdsAny_4 f_X12_231 rfl (Nat.lt_of_lt_of_le (by decide) hN) rfl ?_
        refine E.top ((congrFun (hv 114 (by decide)) 16).trans hl.1) ?_
        refine E_cN_ge (a := r) (b := q.1) (tgt := 48) dX12_holdsAny_7 (by omega) (by omega) (by decide) (fun cw7 => absurd cw7 (by omega)) (fun cw7 => ?_)
        refine E_aload_n dX12_holdsAny_10 rfl ?_
        refine E_getR dX12_holdsAny_11 f_X12_53 rfl (Nat.lt_of_lt_of_le (by decide) hN) rfl (hR _ _ _ rfl) ?_
        refine E_iload_n dX12_holdsAny_14 rfl ?_
        refine E_ialdN dX12_holdsAny_15 rfl (Nat.lt_of_lt_of_le (by decide) hN) (by have := hq.1; omega) ?_
        refine E.top ((congrFun (hv 129 (by decide)) r).trans (hl.2.1 r hr).1) ?_
        refine E_iload_n dX12_holdsAny_16 rfl ?_
        refine E_cN_ne (a := q.2.1 r) (b := 120) (tgt := 42) dX12_holdsAny_17 (by omega) (by omega) (by decide) (fun cw17 => ?_) (fun cw17 => absurd cw17 (by omega))
        refine E_incN dX12_holdsAny_42 rfl ?_
        refine E_goto (tgt := 2) dX12_holdsAny_45 (by decide) ?_
        refine ih (r + 1) (by omega) I2 (hv) ?_
        rw [show brL q fa (e + 1) r = brL q fa e (r + 1) from if_neg (fun z => hne z.1)] at hQ
        exact hQ
  refine E_ic (nI 0) dX12_holdsAny_0 (by decide) ?_
  refine E_istore_n dX12_holdsAny_1 (Nat.le_of_ble_eq_true rfl) ?_
  exact key q.1 0 (Nat.zero_add _) I (fun _ _ => rfl) hQ
end PReckonM
