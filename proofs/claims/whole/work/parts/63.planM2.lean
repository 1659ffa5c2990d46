/-! ===== plan: the reference lays a state ===== -/
section PPlanN
variable {g : GL} {d n : Nat} {I : IM} {J : JM} {R : RM} {Q : PQ} {k LN c0 s z : Nat} {Y S D : FN} {q : LWD}
set_option maxRecDepth 100000 in
set_option maxHeartbeats 2000000 in
theorem m_laysState (hN : 152 ≤ n) (hR : RS R) (hk : k < 12) (hLN : LN ≤ 24) (hv : vP LN s) (hz : z = rkN s) (hQ : ∀ I2 : IM, (∀ x, x ≠ 115 → I2 x = I x) → (∀ j, j % 12 ≠ k ∨ 72 ≤ j → I2 115 j = I 115 j) → MDr k 0 c0 Y (unD s) I2 → Q none n I2 J R) : E g mX12_laysState d 0 0 0 (ent 3 [.ref 114, .int (nI k), .int (nI z)]) [] n I J R Q := by
  have o1 := unD_ok hv
  obtain ⟨r0, r1, r2, r4, r3⟩ := rk_of o1.1 o1.2.1 o1.2.2.1 o1.2.2.2.2.1
  have u5 : unD s 5 = 0 := rfl
  have hlt : z < 100000 := by rw [hz]; exact rk_lt hLN o1
  rw [show rkD (unD s) = z from hz.symm] at r0 r1 r2 r3 r4
  refine E_aload_n dX12_laysState_0 rfl ?_
  refine E_getR dX12_laysState_1 f_X12_7 rfl (Nat.lt_of_lt_of_le (by decide) hN) rfl (hR _ _ _ rfl) ?_
  refine E_ic (nI 0) dX12_laysState_4 (by decide) ?_
  refine E_iload_n dX12_laysState_5 rfl ?_
  refine E_iadd dX12_laysState_6 ?_
  refine E.top (nI_add 0 k) ?_
  refine E.top (congrArg nI (Nat.zero_add k)) ?_
  refine E_iload_n dX12_laysState_7 rfl ?_
  refine E_bp (nI 20) dX12_laysState_8 (by decide) ?_
  refine E_irem dX12_laysState_10 (by decide) ?_
  refine E.top (pk_rem (a := z) (d := 20) (by omega) (by decide) (by decide)) ?_
  refine E_iastN dX12_laysState_11 rfl (Nat.lt_of_lt_of_le (by decide) hN) (by omega) ?_
  refine E_aload_n dX12_laysState_12 rfl ?_
  refine E_getR dX12_laysState_13 f_X12_7 rfl (Nat.lt_of_lt_of_le (by decide) hN) rfl (hR _ _ _ rfl) ?_
  refine E_bp (nI 12) dX12_laysState_16 (by decide) ?_
  refine E_iload_n dX12_laysState_18 rfl ?_
  refine E_iadd dX12_laysState_19 ?_
  refine E.top (nI_add 12 k) ?_
  refine E_iload_n dX12_laysState_20 rfl ?_
  refine E_bp (nI 20) dX12_laysState_21 (by decide) ?_
  refine E_idiv dX12_laysState_23 (by decide) ?_
  refine E.top (pk_div (a := z) (d := 20) (by omega) (by decide) (by decide)) ?_
  refine E_bp (nI 10) dX12_laysState_24 (by decide) ?_
  refine E_irem dX12_laysState_26 (by decide) ?_
  refine E.top (pk_rem (a := z / 20) (d := 10) (by omega) (by decide) (by decide)) ?_
  refine E_iastN dX12_laysState_27 rfl (Nat.lt_of_lt_of_le (by decide) hN) (by omega) ?_
  refine E_aload_n dX12_laysState_28 rfl ?_
  refine E_getR dX12_laysState_29 f_X12_7 rfl (Nat.lt_of_lt_of_le (by decide) hN) rfl (hR _ _ _ rfl) ?_
  refine E_bp (nI 24) dX12_laysState_32 (by decide) ?_
  refine E_iload_n dX12_laysState_34 rfl ?_
  refine E_iadd dX12_laysState_35 ?_
  refine E.top (nI_add 24 k) ?_
  refine E_iload_n dX12_laysState_36 rfl ?_
  refine E_sp (nI 200) dX12_laysState_37 (by decide) ?_
  refine E_idiv dX12_laysState_40 (by decide) ?_
  refine E.top (pk_div (a := z) (d := 200) (by omega) (by decide) (by decide)) ?_
  refine E_bp (nI 10) dX12_laysState_41 (by decide) ?_
  refine E_irem dX12_laysState_43 (by decide) ?_
  refine E.top (pk_rem (a := z / 200) (d := 10) (by omega) (by decide) (by decide)) ?_
  refine E_iastN dX12_laysState_44 rfl (Nat.lt_of_lt_of_le (by decide) hN) (by omega) ?_
  refine E_aload_n dX12_laysState_45 rfl ?_
  refine E_getR dX12_laysState_46 f_X12_7 rfl (Nat.lt_of_lt_of_le (by decide) hN) rfl (hR _ _ _ rfl) ?_
  refine E_bp (nI 36) dX12_laysState_49 (by decide) ?_
  refine E_iload_n dX12_laysState_51 rfl ?_
  refine E_iadd dX12_laysState_52 ?_
  refine E.top (nI_add 36 k) ?_
  refine E_iload_n dX12_laysState_53 rfl ?_
  refine E_sp (nI 2000) dX12_laysState_54 (by decide) ?_
  refine E_idiv dX12_laysState_57 (by decide) ?_
  refine E.top (pk_div (a := z) (d := 2000) (by omega) (by decide) (by decide)) ?_
  refine E_ic (nI 2) dX12_laysState_58 (by decide) ?_
  refine E_irem dX12_laysState_59 (by decide) ?_
  refine E.top (pk_rem (a := z / 2000) (d := 2) (by omega) (by decide) (by decide)) ?_
  refine E_iastN dX12_laysState_60 rfl (Nat.lt_of_lt_of_le (by decide) hN) (by omega) ?_
  refine E_aload_n dX12_laysState_61 rfl ?_
  refine E_getR dX12_laysState_62 f_X12_7 rfl (Nat.lt_of_lt_of_le (by decide) hN) rfl (hR _ _ _ rfl) ?_
  refine E_bp (nI 60) dX12_laysState_65 (by decide) ?_
  refine E_iload_n dX12_laysState_67 rfl ?_
  refine E_iadd dX12_laysState_68 ?_
  refine E.top (nI_add 60 k) ?_
  refine E_iload_n dX12_laysState_69 rfl ?_
  refine E_sp (nI 4000) dX12_laysState_70 (by decide) ?_
  refine E_idiv dX12_laysState_73 (by decide) ?_
  refine E.top (pk_div (a := z) (d := 4000) (by omega) (by decide) (by decide)) ?_
  refine E_iastN dX12_laysState_74 rfl (Nat.lt_of_lt_of_le (by decide) hN) (by omega) ?_
  refine E_aload_n dX12_laysState_75 rfl ?_
  refine E_getR dX12_laysState_76 f_X12_7 rfl (Nat.lt_of_lt_of_le (by decide) hN) rfl (hR _ _ _ rfl) ?_
  refine E_bp (nI 48) dX12_laysState_79 (by decide) ?_
  refine E_iload_n dX12_laysState_81 rfl ?_
  refine E_iadd dX12_laysState_82 ?_
  refine E.top (nI_add 48 k) ?_
  refine E_ic (nI 0) dX12_laysState_83 (by decide) ?_
  refine E_iastN dX12_laysState_84 rfl (Nat.lt_of_lt_of_le (by decide) hN) (by omega) ?_
  exact E_ret dX12_laysState_85 rfl (hQ _ (fun x hx => by rw [up2_o _ 115 _ _ x hx, up2_o _ 115 _ _ x hx, up2_o _ 115 _ _ x hx, up2_o _ 115 _ _ x hx, up2_o _ 115 _ _ x hx, up2_o _ 115 _ _ x hx]) (fun j hj => by rw [up2_k _ _ (show j ≠ 48 + k by omega), up2_k _ _ (show j ≠ 60 + k by omega), up2_k _ _ (show j ≠ 36 + k by omega), up2_k _ _ (show j ≠ 24 + k by omega), up2_k _ _ (show j ≠ 12 + k by omega), up2_k _ _ (show j ≠ k by omega)]) ⟨⟨by rw [up2_k _ _ (show k ≠ 48 + k by omega), up2_k _ _ (show k ≠ 60 + k by omega), up2_k _ _ (show k ≠ 36 + k by omega), up2_k _ _ (show k ≠ 24 + k by omega), up2_k _ _ (show k ≠ 12 + k by omega), up2_s, r0], by rw [up2_k _ _ (show 12 + k ≠ 48 + k by omega), up2_k _ _ (show 12 + k ≠ 60 + k by omega), up2_k _ _ (show 12 + k ≠ 36 + k by omega), up2_k _ _ (show 12 + k ≠ 24 + k by omega), up2_s, r1], by rw [up2_k _ _ (show 24 + k ≠ 48 + k by omega), up2_k _ _ (show 24 + k ≠ 60 + k by omega), up2_k _ _ (show 24 + k ≠ 36 + k by omega), up2_s, r2], by rw [up2_k _ _ (show 60 + k ≠ 48 + k by omega), up2_s, r3], by rw [up2_k _ _ (show 36 + k ≠ 48 + k by omega), up2_k _ _ (show 36 + k ≠ 60 + k by omega), up2_s, r4], by rw [up2_s, u5]⟩, fun y => absurd y (by decide)⟩)
end PPlanN
