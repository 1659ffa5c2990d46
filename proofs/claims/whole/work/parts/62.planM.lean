/-! ===== plan: the reference's states ===== -/
abbrev rkD (D : FN) : Nat := (((D 3 * 2 + D 4) * 10 + D 2) * 10 + D 1) * 20 + D 0
abbrev rkN (s : Nat) : Nat := rkD (unD s)
theorem rk_lt {LN : Nat} {D : FN} (hL : LN ≤ 24) (h : okD LN D) : rkD D < 100000 := by
  obtain ⟨a0, a1, a2, a3, a4, a5, a6, a7, a8, a9⟩ := h
  unfold rkD
  omega
theorem rk_of {D : FN} (a0 : D 0 ≤ 19) (a1 : D 1 ≤ 9) (a2 : D 2 ≤ 9) (a4 : D 4 ≤ 1) : rkD D % 20 = D 0 ∧ rkD D / 20 % 10 = D 1 ∧ rkD D / 200 % 10 = D 2 ∧ rkD D / 2000 % 2 = D 4 ∧ rkD D / 4000 = D 3 := by
  unfold rkD
  omega
theorem pkN_un {LN s : Nat} (h : vP LN s) : pkD (unD s) = s := by
  unfold pkD
  have e0 : unD s 0 = s / 99 % 20 := rfl
  have e1 : unD s 1 = s / 11 % 9 + 1 := rfl
  have e3 : unD s 3 = s / 1980 := rfl
  by_cases c : s % 11 = 10
  · have e4 : unD s 4 = 1 := if_pos c
    rw [if_neg (by rw [e4]; decide), e0, e1, e3]
    omega
  · have e4 : unD s 4 = 0 := if_neg c
    have e2 : unD s 2 = s % 11 := if_neg c
    rw [if_pos e4, e0, e1, e2, e3]
    omega
theorem rk_inj {LN s t : Nat} (hs : vP LN s) (ht : vP LN t) (e : rkN s = rkN t) : s = t := by
  have o1 := unD_ok hs
  have o2 := unD_ok ht
  have r1 := rk_of o1.1 o1.2.1 o1.2.2.1 o1.2.2.2.2.1
  have r2 := rk_of o2.1 o2.2.1 o2.2.2.1 o2.2.2.2.2.1
  rw [show rkD (unD s) = rkD (unD t) from e] at r1
  rw [← pkN_un hs, ← pkN_un ht]
  unfold pkD
  rw [← r1.1, ← r1.2.1, ← r1.2.2.1, ← r1.2.2.2.1, ← r1.2.2.2.2, r2.1, r2.2.1, r2.2.2.1, r2.2.2.2.1, r2.2.2.2.2]
/-- who lets one more out does not break him -/
theorem dd_out {q : LWD} {k LN : Nat} {Y S D : FN} {deed i w : Nat} (h5 : D 5 = 0) (h : D 3 < ddS q k LN Y S deed i w D 3) : ddS q k LN Y S deed i w D 5 = 0 := by
  revert h
  unfold ddS
  split
  · unfold d0D
    split
    · split
      · rw [(lsD_c _ _).2]
        intro h
        exact absurd (show D 3 < D 3 from h) (Nat.lt_irrefl _)
      · exact fun _ => h5
    · exact fun _ => h5
  · unfold d1D
    split
    · split
      · exact fun _ => h5
      · rw [(lsD_c _ _).2]
        intro h
        exact absurd h (Nat.lt_irrefl _)
    · exact fun _ => h5
  · unfold d2D
    split
    · exact fun _ => h5
    · exact fun _ => h5
  · exact fun _ => h5
  · unfold d4D
    split
    · exact fun _ => h5
    · exact fun _ => h5
  · exact fun _ => h5
section PPlanM
variable {g : GL} {d n : Nat} {I : IM} {J : JM} {R : RM} {Q : PQ} {k LN c0 s : Nat} {Y S D : FN} {q : LWD}
set_option maxRecDepth 100000 in
set_option maxHeartbeats 2000000 in
theorem m_stateOf (hN : 152 ≤ n) (hR : RS R) (hk : k < 12) (hD : MDr k 0 c0 Y D I) (hQ : Q (some (.int (nI (rkD D)))) n I J R) : E g mX12_stateOf d 0 0 0 (ent 2 [.ref 114, .int (nI k)]) [] n I J R Q := by
  refine E_aload_n dX12_stateOf_0 rfl ?_
  refine E_getR dX12_stateOf_1 f_X12_7 rfl (Nat.lt_of_lt_of_le (by decide) hN) rfl (hR _ _ _ rfl) ?_
  refine E_bp (nI 60) dX12_stateOf_4 (by decide) ?_
  refine E_iload_n dX12_stateOf_6 rfl ?_
  refine E_iadd dX12_stateOf_7 ?_
  refine E.top (nI_add 60 k) ?_
  refine E_ialdN dX12_stateOf_8 rfl (Nat.lt_of_lt_of_le (by decide) hN) (by omega) ?_
  refine E.top ((hD.1.2.2.2.1)) ?_
  refine E_ic (nI 2) dX12_stateOf_9 (by decide) ?_
  refine E_imul dX12_stateOf_10 ?_
  refine E.top (pk_mul (D 3) 2) ?_
  refine E_aload_n dX12_stateOf_11 rfl ?_
  refine E_getR dX12_stateOf_12 f_X12_7 rfl (Nat.lt_of_lt_of_le (by decide) hN) rfl (hR _ _ _ rfl) ?_
  refine E_bp (nI 36) dX12_stateOf_15 (by decide) ?_
  refine E_iload_n dX12_stateOf_17 rfl ?_
  refine E_iadd dX12_stateOf_18 ?_
  refine E.top (nI_add 36 k) ?_
  refine E_ialdN dX12_stateOf_19 rfl (Nat.lt_of_lt_of_le (by decide) hN) (by omega) ?_
  refine E.top ((hD.1.2.2.2.2.1)) ?_
  refine E_iadd dX12_stateOf_20 ?_
  refine E.top (nI_add ((D 3) * 2) (D 4)) ?_
  refine E_bp (nI 10) dX12_stateOf_21 (by decide) ?_
  refine E_imul dX12_stateOf_23 ?_
  refine E.top (pk_mul (((D 3) * 2) + (D 4)) 10) ?_
  refine E_aload_n dX12_stateOf_24 rfl ?_
  refine E_getR dX12_stateOf_25 f_X12_7 rfl (Nat.lt_of_lt_of_le (by decide) hN) rfl (hR _ _ _ rfl) ?_
  refine E_bp (nI 24) dX12_stateOf_28 (by decide) ?_
  refine E_iload_n dX12_stateOf_30 rfl ?_
  refine E_iadd dX12_stateOf_31 ?_
  refine E.top (nI_add 24 k) ?_
  refine E_ialdN dX12_stateOf_32 rfl (Nat.lt_of_lt_of_le (by decide) hN) (by omega) ?_
  refine E.top ((hD.1.2.2.1)) ?_
  refine E_iadd dX12_stateOf_33 ?_
  refine E.top (nI_add ((((D 3) * 2) + (D 4)) * 10) (D 2)) ?_
  refine E_bp (nI 10) dX12_stateOf_34 (by decide) ?_
  refine E_imul dX12_stateOf_36 ?_
  refine E.top (pk_mul (((((D 3) * 2) + (D 4)) * 10) + (D 2)) 10) ?_
  refine E_aload_n dX12_stateOf_37 rfl ?_
  refine E_getR dX12_stateOf_38 f_X12_7 rfl (Nat.lt_of_lt_of_le (by decide) hN) rfl (hR _ _ _ rfl) ?_
  refine E_bp (nI 12) dX12_stateOf_41 (by decide) ?_
  refine E_iload_n dX12_stateOf_43 rfl ?_
  refine E_iadd dX12_stateOf_44 ?_
  refine E.top (nI_add 12 k) ?_
  refine E_ialdN dX12_stateOf_45 rfl (Nat.lt_of_lt_of_le (by decide) hN) (by omega) ?_
  refine E.top ((hD.1.2.1)) ?_
  refine E_iadd dX12_stateOf_46 ?_
  refine E.top (nI_add ((((((D 3) * 2) + (D 4)) * 10) + (D 2)) * 10) (D 1)) ?_
  refine E_bp (nI 20) dX12_stateOf_47 (by decide) ?_
  refine E_imul dX12_stateOf_49 ?_
  refine E.top (pk_mul (((((((D 3) * 2) + (D 4)) * 10) + (D 2)) * 10) + (D 1)) 20) ?_
  refine E_aload_n dX12_stateOf_50 rfl ?_
  refine E_getR dX12_stateOf_51 f_X12_7 rfl (Nat.lt_of_lt_of_le (by decide) hN) rfl (hR _ _ _ rfl) ?_
  refine E_ic (nI 0) dX12_stateOf_54 (by decide) ?_
  refine E_iload_n dX12_stateOf_55 rfl ?_
  refine E_iadd dX12_stateOf_56 ?_
  refine E.top (nI_add 0 k) ?_
  refine E_ialdN dX12_stateOf_57 rfl (Nat.lt_of_lt_of_le (by decide) hN) (by omega) ?_
  refine E.top ((congrArg (I 115) (Nat.zero_add k)).trans (hD.1.1)) ?_
  refine E_iadd dX12_stateOf_58 ?_
  refine E.top (nI_add ((((((((D 3) * 2) + (D 4)) * 10) + (D 2)) * 10) + (D 1)) * 20) (D 0)) ?_
  exact E_iret dX12_stateOf_59 rfl (hQ)
end PPlanM
