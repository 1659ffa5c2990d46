/-! ===== plan: the class's rows ===== -/
abbrev bt (x : Int32) (j : Nat) : Bool := x.toBitVec.getLsbD j
theorem bt_low (x : Int32) : x &&& nI 1 = nI (if bt x 0 then 1 else 0) := by
  apply Int32.toBitVec_inj.mp
  apply BitVec.eq_of_getLsbD_eq
  intro i hi
  rw [Int32.toBitVec_and, BitVec.getLsbD_and]
  have h1 : ∀ i, i < 32 → (nI 1).toBitVec.getLsbD i = decide (i = 0) := by decide
  have h0 : ∀ i, i < 32 → (nI 0).toBitVec.getLsbD i = false := by decide
  rw [h1 i hi]
  by_cases z : i = 0
  · subst z
    cases c : bt x 0 with
    | true => rw [if_pos rfl, h1 0 hi, show x.toBitVec.getLsbD 0 = true from c]; rfl
    | false => rw [if_neg (by decide), h0 0 hi, show x.toBitVec.getLsbD 0 = false from c]; rfl
  · rw [decide_eq_false z, Bool.and_false]
    cases c : bt x 0 with
    | true => rw [if_pos rfl, h1 i hi, decide_eq_false z]
    | false => rw [if_neg (by decide), h0 i hi]
theorem bt_shr {x : Int32} {j : Nat} (hj : j < 32) : bt ((x.toUInt32 >>> ((nI j).toUInt32 &&& Int32.toUInt32 31)).toInt32) 0 = bt x j := by
  have k1 : ∀ j, j < 32 → ((nI j).toUInt32 &&& Int32.toUInt32 31).toBitVec % 32 = BitVec.ofNat 32 j := by decide
  show (x.toUInt32.toBitVec >>> (((nI j).toUInt32 &&& Int32.toUInt32 31).toBitVec % 32)).getLsbD 0 = _
  rw [k1 j hj]
  show (x.toBitVec >>> (BitVec.ofNat 32 j).toNat).getLsbD 0 = _
  rw [BitVec.getLsbD_ushiftRight, BitVec.toNat_ofNat, Nat.mod_eq_of_lt (show j < 2 ^ 32 by omega)]
  rfl
theorem bt_set {x : Int32} {j i : Nat} (hj : j < 32) (hi : i < 32) : bt (x ||| (nI 1 <<< (nI j &&& 31))) i = (bt x i || decide (i = j)) := by
  have k1 : ∀ j, j < 32 → ∀ i, i < 32 → (nI 1 <<< (nI j &&& 31)).toBitVec.getLsbD i = decide (i = j) := by decide +kernel
  show (x ||| (nI 1 <<< (nI j &&& 31))).toBitVec.getLsbD i = _
  rw [Int32.toBitVec_or, BitVec.getLsbD_or, k1 j hj i hi]
/-- which are seen; the row -/
def XP (b : BS) (I : IM) : Prop := I 37 2 = nI b.1 ∧ (∀ i, i < b.1 → I 152 i = nI (8 * b.2.1 i + fsP b i)) ∧ ∀ s, s < 49500 → bt (I 38 (s / 32)) (s % 32) = decide (¬ b.2.2 s = 0)
def FP (I I' : IM) : Prop := (∀ x, x ≠ 37 → x ≠ 38 → x ≠ 152 → I' x = I x)
section PNote
variable {g : GL} {d n : Nat} {I : IM} {J : JM} {R : RM} {Q : PQ} {k LN i w : Nat} {Y S D : FN} {q : LWD} {b : BS}
set_option maxRecDepth 100000 in
set_option maxHeartbeats 2000000 in
theorem x_packed (hN : 152 ≤ n) (hLN : LN ≤ 24) (hO : okD LN D) (h5 : D 5 = 0) (hD : BDc D I) (hQ : Q (some (.int (nI (pkD D)))) n I J R) : E g mX6_packed d 0 0 0 (ent 2 [.ref 23]) [] n I J R Q := by
  obtain ⟨o0, o1, o2, o3, o4, o5, o6, o7, o8, o9⟩ := hO
  have o10 := o7 h5

  refine E_aload_n dX6_packed_0 rfl ?_
  refine E_getI dX6_packed_1 f_X6_79 rfl (Nat.lt_of_lt_of_le (by decide) hN) rfl ?_
  refine E.top (hD.2.2 4 (by decide)) ?_
  refine E_zN_eq (a := D 4) (tgt := 12) dX6_packed_4 (by omega) (by decide) (fun cw4 => ?_) (fun cw4 => ?_)
  · refine E_aload_n dX6_packed_12 rfl ?_
    refine E_getI dX6_packed_13 f_X6_82 rfl (Nat.lt_of_lt_of_le (by decide) hN) rfl ?_
    refine E.top (hD.2.2 2 (by decide)) ?_
    refine E_istore_n dX6_packed_16 (Nat.le_of_ble_eq_true rfl) ?_
    refine E_aload_n dX6_packed_17 rfl ?_
    refine E_getI dX6_packed_18 f_X6_70 rfl (Nat.lt_of_lt_of_le (by decide) hN) rfl ?_
    refine E.top (hD.2.2 3 (by decide)) ?_
    refine E_bp (nI 20) dX6_packed_21 (by decide) ?_
    refine E_imul dX6_packed_23 ?_
    refine E.top (pk_mul (D 3) 20) ?_
    refine E_aload_n dX6_packed_24 rfl ?_
    refine E_getI dX6_packed_25 f_X6_85 rfl (Nat.lt_of_lt_of_le (by decide) hN) rfl ?_
    refine E.top (hD.2.2 0 (by decide)) ?_
    refine E_iadd dX6_packed_28 ?_
    refine E.top (nI_add ((D 3) * 20) (D 0)) ?_
    refine E_bp (nI 9) dX6_packed_29 (by decide) ?_
    refine E_imul dX6_packed_31 ?_
    refine E.top (pk_mul (((D 3) * 20) + (D 0)) 9) ?_
    refine E_aload_n dX6_packed_32 rfl ?_
    refine E_getI dX6_packed_33 f_X6_88 rfl (Nat.lt_of_lt_of_le (by decide) hN) rfl ?_
    refine E.top (hD.2.2 1 (by decide)) ?_
    refine E_iadd dX6_packed_36 ?_
    refine E.top (nI_add ((((D 3) * 20) + (D 0)) * 9) (D 1)) ?_
    refine E_ic (nI 1) dX6_packed_37 (by decide) ?_
    refine E_isub dX6_packed_38 ?_
    refine E.top (pk_sub (a := ((((D 3) * 20) + (D 0)) * 9) + (D 1)) (b := 1) (by omega)) ?_
    refine E_bp (nI 11) dX6_packed_39 (by decide) ?_
    refine E_imul dX6_packed_41 ?_
    refine E.top (pk_mul ((((((D 3) * 20) + (D 0)) * 9) + (D 1)) - 1) 11) ?_
    refine E_iload_n dX6_packed_42 rfl ?_
    refine E_iadd dX6_packed_43 ?_
    refine E.top (nI_add (((((((D 3) * 20) + (D 0)) * 9) + (D 1)) - 1) * 11) (D 2)) ?_
    exact E_iret dX6_packed_44 rfl (by first | (rw [show pkD D = ((D 3 * 20 + D 0) * 9 + D 1 - 1) * 11 + 10 by unfold pkD; rw [if_neg (by omega)]] at hQ; exact hQ) | (rw [show pkD D = ((D 3 * 20 + D 0) * 9 + D 1 - 1) * 11 + D 2 by unfold pkD; rw [if_pos (by omega)]] at hQ; exact hQ))
  · refine E_bp (nI 10) dX6_packed_7 (by decide) ?_
    refine E_goto (tgt := 16) dX6_packed_9 (by decide) ?_
    refine E_istore_n dX6_packed_16 (Nat.le_of_ble_eq_true rfl) ?_
    refine E_aload_n dX6_packed_17 rfl ?_
    refine E_getI dX6_packed_18 f_X6_70 rfl (Nat.lt_of_lt_of_le (by decide) hN) rfl ?_
    refine E.top (hD.2.2 3 (by decide)) ?_
    refine E_bp (nI 20) dX6_packed_21 (by decide) ?_
    refine E_imul dX6_packed_23 ?_
    refine E.top (pk_mul (D 3) 20) ?_
    refine E_aload_n dX6_packed_24 rfl ?_
    refine E_getI dX6_packed_25 f_X6_85 rfl (Nat.lt_of_lt_of_le (by decide) hN) rfl ?_
    refine E.top (hD.2.2 0 (by decide)) ?_
    refine E_iadd dX6_packed_28 ?_
    refine E.top (nI_add ((D 3) * 20) (D 0)) ?_
    refine E_bp (nI 9) dX6_packed_29 (by decide) ?_
    refine E_imul dX6_packed_31 ?_
    refine E.top (pk_mul (((D 3) * 20) + (D 0)) 9) ?_
    refine E_aload_n dX6_packed_32 rfl ?_
    refine E_getI dX6_packed_33 f_X6_88 rfl (Nat.lt_of_lt_of_le (by decide) hN) rfl ?_
    refine E.top (hD.2.2 1 (by decide)) ?_
    refine E_iadd dX6_packed_36 ?_
    refine E.top (nI_add ((((D 3) * 20) + (D 0)) * 9) (D 1)) ?_
    refine E_ic (nI 1) dX6_packed_37 (by decide) ?_
    refine E_isub dX6_packed_38 ?_
    refine E.top (pk_sub (a := ((((D 3) * 20) + (D 0)) * 9) + (D 1)) (b := 1) (by omega)) ?_
    refine E_bp (nI 11) dX6_packed_39 (by decide) ?_
    refine E_imul dX6_packed_41 ?_
    refine E.top (pk_mul ((((((D 3) * 20) + (D 0)) * 9) + (D 1)) - 1) 11) ?_
    refine E_iload_n dX6_packed_42 rfl ?_
    refine E_iadd dX6_packed_43 ?_
    refine E.top (nI_add (((((((D 3) * 20) + (D 0)) * 9) + (D 1)) - 1) * 11) 10) ?_
    exact E_iret dX6_packed_44 rfl (by first | (rw [show pkD D = ((D 3 * 20 + D 0) * 9 + D 1 - 1) * 11 + 10 by unfold pkD; rw [if_neg (by omega)]] at hQ; exact hQ) | (rw [show pkD D = ((D 3 * 20 + D 0) * 9 + D 1 - 1) * 11 + D 2 by unfold pkD; rw [if_pos (by omega)]] at hQ; exact hQ))
set_option maxRecDepth 100000 in
set_option maxHeartbeats 2000000 in
theorem x_unpack {s : Nat} (hN : 152 ≤ n) (hs : s < 49500) (hQ : ∀ I2 : IM, (∀ x, x ≠ 23 → I2 x = I x) → (∀ j, j < 6 → I2 23 j = nI (unD s j)) → Q none n I2 J R) : E g mX6_unpack d 0 0 0 (ent 4 [.int (nI s), .ref 23]) [] n I J R Q := by
  by_cases c10 : s % 11 = 10
  · skip
    refine E_iload_n dX6_unpack_0 rfl ?_
    refine E_bp (nI 11) dX6_unpack_1 (by decide) ?_
    refine E_irem dX6_unpack_3 (by decide) ?_
    refine E.top (pk_rem (a := s) (d := 11) (by omega) (by decide) (by decide)) ?_
    refine E_istore_n dX6_unpack_4 (Nat.le_of_ble_eq_true rfl) ?_
    refine E_iload_n dX6_unpack_5 rfl ?_
    refine E_bp (nI 11) dX6_unpack_6 (by decide) ?_
    refine E_idiv dX6_unpack_8 (by decide) ?_
    refine E.top (pk_div (a := s) (d := 11) (by omega) (by decide) (by decide)) ?_
    refine E_istore_n dX6_unpack_9 (Nat.le_of_ble_eq_true rfl) ?_
    refine E_aload_n dX6_unpack_10 rfl ?_
    refine E_iload_n dX6_unpack_11 rfl ?_
    refine E_bp (nI 10) dX6_unpack_12 (by decide) ?_
    refine E_cN_ne (a := s % 11) (b := 10) (tgt := 21) dX6_unpack_14 (by omega) (by decide) (by decide) (fun cw14 => absurd cw14 (by omega)) (fun cw14 => ?_)
    refine E_ic (nI 1) dX6_unpack_17 (by decide) ?_
    refine E_goto (tgt := 22) dX6_unpack_18 (by decide) ?_
    refine E_putZ dX6_unpack_22 f_X6_79 rfl (Nat.lt_of_lt_of_le (by decide) hN) rfl (by decide) ?_
    refine E_aload_n dX6_unpack_25 rfl ?_
    refine E_aload_n dX6_unpack_26 rfl ?_
    refine E_getI dX6_unpack_27 f_X6_79 rfl (Nat.lt_of_lt_of_le (by decide) hN) rfl ?_
    refine E.top (up2_s _ _ _ _) ?_
    refine E_zN_eq (a := 1) (tgt := 37) dX6_unpack_30 (by decide) (by decide) (fun cw30 => absurd cw30 (by omega)) (fun cw30 => ?_)
    refine E_ic (nI 0) dX6_unpack_33 (by decide) ?_
    refine E_goto (tgt := 38) dX6_unpack_34 (by decide) ?_
    refine E_putI dX6_unpack_38 f_X6_82 rfl (Nat.lt_of_lt_of_le (by decide) hN) rfl ?_
    refine E_aload_n dX6_unpack_41 rfl ?_
    refine E_iload_n dX6_unpack_42 rfl ?_
    refine E_bp (nI 9) dX6_unpack_43 (by decide) ?_
    refine E_irem dX6_unpack_45 (by decide) ?_
    refine E.top (pk_rem (a := s / 11) (d := 9) (by omega) (by decide) (by decide)) ?_
    refine E_ic (nI 1) dX6_unpack_46 (by decide) ?_
    refine E_iadd dX6_unpack_47 ?_
    refine E.top (nI_add ((s / 11) % 9) 1) ?_
    refine E_putI dX6_unpack_48 f_X6_88 rfl (Nat.lt_of_lt_of_le (by decide) hN) rfl ?_
    refine E_iload_n dX6_unpack_51 rfl ?_
    refine E_bp (nI 9) dX6_unpack_52 (by decide) ?_
    refine E_idiv dX6_unpack_54 (by decide) ?_
    refine E.top (pk_div (a := s / 11) (d := 9) (by omega) (by decide) (by decide)) ?_
    refine E_istore_n dX6_unpack_55 (Nat.le_of_ble_eq_true rfl) ?_
    refine E_aload_n dX6_unpack_56 rfl ?_
    refine E_iload_n dX6_unpack_57 rfl ?_
    refine E_bp (nI 20) dX6_unpack_58 (by decide) ?_
    refine E_irem dX6_unpack_60 (by decide) ?_
    refine E.top (pk_rem (a := (s / 11) / 9) (d := 20) (by omega) (by decide) (by decide)) ?_
    refine E_putI dX6_unpack_61 f_X6_85 rfl (Nat.lt_of_lt_of_le (by decide) hN) rfl ?_
    refine E_aload_n dX6_unpack_64 rfl ?_
    refine E_iload_n dX6_unpack_65 rfl ?_
    refine E_bp (nI 20) dX6_unpack_66 (by decide) ?_
    refine E_idiv dX6_unpack_68 (by decide) ?_
    refine E.top (pk_div (a := (s / 11) / 9) (d := 20) (by omega) (by decide) (by decide)) ?_
    refine E_putI dX6_unpack_69 f_X6_70 rfl (Nat.lt_of_lt_of_le (by decide) hN) rfl ?_
    refine E_aload_n dX6_unpack_72 rfl ?_
    refine E_ic (nI 0) dX6_unpack_73 (by decide) ?_
    refine E_putZ dX6_unpack_74 f_X6_75 rfl (Nat.lt_of_lt_of_le (by decide) hN) rfl (by decide) ?_
    exact E_ret dX6_unpack_77 rfl (hQ _ (fun x hx => by rw [up2_o _ 23 _ _ x hx, up2_o _ 23 _ _ x hx, up2_o _ 23 _ _ x hx, up2_o _ 23 _ _ x hx, up2_o _ 23 _ _ x hx, up2_o _ 23 _ _ x hx]) (fun j hj => by
          have cj : j = 0 ∨ j = 1 ∨ j = 2 ∨ j = 3 ∨ j = 4 ∨ j = 5 := by omega
          have u0 : unD s 0 = s / 11 / 9 % 20 := by show s / 99 % 20 = _; omega
          have u3 : unD s 3 = s / 11 / 9 / 20 := by show s / 1980 = _; omega
          rcases cj with rfl | rfl | rfl | rfl | rfl | rfl
          · rw [u0]; rfl
          · rfl
          · exact congrArg nI (if_pos c10).symm
          · rw [u3]; rfl
          · exact congrArg nI (if_pos c10).symm
          · rfl))
  · skip
    refine E_iload_n dX6_unpack_0 rfl ?_
    refine E_bp (nI 11) dX6_unpack_1 (by decide) ?_
    refine E_irem dX6_unpack_3 (by decide) ?_
    refine E.top (pk_rem (a := s) (d := 11) (by omega) (by decide) (by decide)) ?_
    refine E_istore_n dX6_unpack_4 (Nat.le_of_ble_eq_true rfl) ?_
    refine E_iload_n dX6_unpack_5 rfl ?_
    refine E_bp (nI 11) dX6_unpack_6 (by decide) ?_
    refine E_idiv dX6_unpack_8 (by decide) ?_
    refine E.top (pk_div (a := s) (d := 11) (by omega) (by decide) (by decide)) ?_
    refine E_istore_n dX6_unpack_9 (Nat.le_of_ble_eq_true rfl) ?_
    refine E_aload_n dX6_unpack_10 rfl ?_
    refine E_iload_n dX6_unpack_11 rfl ?_
    refine E_bp (nI 10) dX6_unpack_12 (by decide) ?_
    refine E_cN_ne (a := s % 11) (b := 10) (tgt := 21) dX6_unpack_14 (by omega) (by decide) (by decide) (fun cw14 => ?_) (fun cw14 => absurd cw14 (by omega))
    refine E_ic (nI 0) dX6_unpack_21 (by decide) ?_
    refine E_putZ dX6_unpack_22 f_X6_79 rfl (Nat.lt_of_lt_of_le (by decide) hN) rfl (by decide) ?_
    refine E_aload_n dX6_unpack_25 rfl ?_
    refine E_aload_n dX6_unpack_26 rfl ?_
    refine E_getI dX6_unpack_27 f_X6_79 rfl (Nat.lt_of_lt_of_le (by decide) hN) rfl ?_
    refine E.top (up2_s _ _ _ _) ?_
    refine E_zN_eq (a := 0) (tgt := 37) dX6_unpack_30 (by decide) (by decide) (fun cw30 => ?_) (fun cw30 => absurd cw30 (by omega))
    refine E_iload_n dX6_unpack_37 rfl ?_
    refine E_putI dX6_unpack_38 f_X6_82 rfl (Nat.lt_of_lt_of_le (by decide) hN) rfl ?_
    refine E_aload_n dX6_unpack_41 rfl ?_
    refine E_iload_n dX6_unpack_42 rfl ?_
    refine E_bp (nI 9) dX6_unpack_43 (by decide) ?_
    refine E_irem dX6_unpack_45 (by decide) ?_
    refine E.top (pk_rem (a := s / 11) (d := 9) (by omega) (by decide) (by decide)) ?_
    refine E_ic (nI 1) dX6_unpack_46 (by decide) ?_
    refine E_iadd dX6_unpack_47 ?_
    refine E.top (nI_add ((s / 11) % 9) 1) ?_
    refine E_putI dX6_unpack_48 f_X6_88 rfl (Nat.lt_of_lt_of_le (by decide) hN) rfl ?_
    refine E_iload_n dX6_unpack_51 rfl ?_
    refine E_bp (nI 9) dX6_unpack_52 (by decide) ?_
    refine E_idiv dX6_unpack_54 (by decide) ?_
    refine E.top (pk_div (a := s / 11) (d := 9) (by omega) (by decide) (by decide)) ?_
    refine E_istore_n dX6_unpack_55 (Nat.le_of_ble_eq_true rfl) ?_
    refine E_aload_n dX6_unpack_56 rfl ?_
    refine E_iload_n dX6_unpack_57 rfl ?_
    refine E_bp (nI 20) dX6_unpack_58 (by decide) ?_
    refine E_irem dX6_unpack_60 (by decide) ?_
    refine E.top (pk_rem (a := (s / 11) / 9) (d := 20) (by omega) (by decide) (by decide)) ?_
    refine E_putI dX6_unpack_61 f_X6_85 rfl (Nat.lt_of_lt_of_le (by decide) hN) rfl ?_
    refine E_aload_n dX6_unpack_64 rfl ?_
    refine E_iload_n dX6_unpack_65 rfl ?_
    refine E_bp (nI 20) dX6_unpack_66 (by decide) ?_
    refine E_idiv dX6_unpack_68 (by decide) ?_
    refine E.top (pk_div (a := (s / 11) / 9) (d := 20) (by omega) (by decide) (by decide)) ?_
    refine E_putI dX6_unpack_69 f_X6_70 rfl (Nat.lt_of_lt_of_le (by decide) hN) rfl ?_
    refine E_aload_n dX6_unpack_72 rfl ?_
    refine E_ic (nI 0) dX6_unpack_73 (by decide) ?_
    refine E_putZ dX6_unpack_74 f_X6_75 rfl (Nat.lt_of_lt_of_le (by decide) hN) rfl (by decide) ?_
    exact E_ret dX6_unpack_77 rfl (hQ _ (fun x hx => by rw [up2_o _ 23 _ _ x hx, up2_o _ 23 _ _ x hx, up2_o _ 23 _ _ x hx, up2_o _ 23 _ _ x hx, up2_o _ 23 _ _ x hx, up2_o _ 23 _ _ x hx]) (fun j hj => by
          have cj : j = 0 ∨ j = 1 ∨ j = 2 ∨ j = 3 ∨ j = 4 ∨ j = 5 := by omega
          have u0 : unD s 0 = s / 11 / 9 % 20 := by show s / 99 % 20 = _; omega
          have u3 : unD s 3 = s / 11 / 9 / 20 := by show s / 1980 = _; omega
          rcases cj with rfl | rfl | rfl | rfl | rfl | rfl
          · rw [u0]; rfl
          · rfl
          · exact congrArg nI (if_neg c10).symm
          · rw [u3]; rfl
          · exact congrArg nI (if_neg c10).symm
          · rfl))
theorem pk_shr5 {s : Nat} (h : s < 49500) : nI s >>> (nI 5 &&& 31) = nI (s / 32) := pk_shrN (by omega) _ 5 (by decide)
theorem pk_shl3 {s : Nat} (h : s < 49500) : nI s <<< (nI 3 &&& 31) = nI (8 * s) := (pk_shlN _ 3 (by decide) (by omega)).trans (congrArg nI (by omega))
theorem pk_or3 {s f : Nat} (hs : s < 49500) (h : f < 8) : nI (8 * s) ||| nI f = nI (8 * s + f) := (nI_or (by omega) (by omega)).trans (congrArg nI (Nat.two_pow_add_eq_or_of_lt (i := 3) h s).symm)
theorem XP_nt {V : Nat → Prop} {s f v : Nat} (hW : WP V 49500 b) (hP : XP b I) (hs : s < 49500) (hv : v ≠ 0) (hf2 : (v - 1) % 8 = f) (hz : b.2.2 s = 0) : XP (nt b s v) (up2 (up2 (up2 I 38 (s / 32) (I 38 (s / 32) ||| (nI 1 <<< (nI (s % 32) &&& 31)))) 152 b.1 (nI (8 * s + f))) 37 2 (nI (b.1 + 1))) ∧ FP I (up2 (up2 (up2 I 38 (s / 32) (I 38 (s / 32) ||| (nI 1 <<< (nI (s % 32) &&& 31)))) 152 b.1 (nI (8 * s + f))) 37 2 (nI (b.1 + 1))) ∧ (∀ j, j ≠ 2 → up2 (up2 (up2 I 38 (s / 32) (I 38 (s / 32) ||| (nI 1 <<< (nI (s % 32) &&& 31)))) 152 b.1 (nI (8 * s + f))) 37 2 (nI (b.1 + 1)) 37 j = I 37 j) := by
  refine ⟨?_, fun x h1 h2 h3 => by rw [up2_o _ 37 _ _ x h1, up2_o _ 152 _ _ x h3, up2_o _ 38 _ _ x h2], fun j hj => by rw [up2_k _ _ hj, up2_o _ 152 _ _ 37 (by decide), up2_o _ 38 _ _ 37 (by decide)]⟩
  rw [nt_t hz]
  refine ⟨up2_s _ _ _ _, fun i hi => ?_, fun x hx => ?_⟩
  · rw [up2_o _ 37 _ _ 152 (by decide)]
    by_cases e : i = b.1
    · subst e
      rw [up2_s]
      show _ = nI (8 * up1 b.2.1 b.1 s b.1 + (up1 b.2.2 s v (up1 b.2.1 b.1 s b.1) - 1) % 8)
      rw [up1_s, up1_s, hf2]
    · have hi2 : i < b.1 := by have : i < b.1 + 1 := hi; omega
      rw [up2_k _ _ e, up2_o _ 38 _ _ 152 (by decide), hP.2.1 i hi2]
      show _ = nI (8 * up1 b.2.1 b.1 s i + (up1 b.2.2 s v (up1 b.2.1 b.1 s i) - 1) % 8)
      rw [up1_n e, up1_n (fun z => (hW.1 i hi2).2 (by rw [z]; exact hz))]
  · rw [up2_o _ 37 _ _ 38 (by decide), up2_o _ 152 _ _ 38 (by decide)]
    show _ = decide (¬ up1 b.2.2 s v x = 0)
    by_cases e : x / 32 = s / 32
    · rw [e, up2_s, bt_set (by omega) (by omega), ← e, hP.2.2 x hx]
      by_cases c : x = s
      · subst c
        rw [up1_s, decide_eq_true hv, decide_eq_true rfl, Bool.or_true]
      · rw [up1_n c, decide_eq_false (show ¬ x % 32 = s % 32 by omega), Bool.or_false]
    · rw [up2_k _ _ e, hP.2.2 x hx, up1_n (fun c => e (by rw [c]))]
set_option maxRecDepth 100000 in
set_option maxHeartbeats 2000000 in
theorem x_note {V : Nat → Prop} {s f v : Nat} (hn3 : n = 153) (hR : RS R) (hw : R 37 1 = some 152) (hW : WP V 49500 b) (hP : XP b I) (hs : s < 49500) (hv : v ≠ 0) (hf2 : (v - 1) % 8 = f) (hQ : ∀ I2 : IM, FP I I2 → XP (nt b s v) I2 → (∀ j, j ≠ 2 → I2 37 j = I 37 j) → Q none n I2 J R) : E g mX6_note d 0 0 0 (ent 4 [.ref 37, .int (nI s), .int (nI f)]) [] n I J R Q := by
  have hN : 153 ≤ n := by omega
  have hf : f < 8 := by omega
  by_cases hz : b.2.2 s = 0
  · have hroom := hW.room hs hz
    have hbit : (((I 38 (s / 32)).toUInt32 >>> ((nI (s % 2 ^ 5)).toUInt32 &&& Int32.toUInt32 31)).toInt32 &&& nI 1) = nI 0 := by
      rw [bt_low, bt_shr (show s % 2 ^ 5 < 32 by omega), show s % 2 ^ 5 = s % 32 from rfl, hP.2.2 s hs, decide_eq_false (fun z => z hz)]
      rfl
    refine E_iload_n dX6_note_0 rfl ?_
    refine E_zN_lt (a := s) (tgt := 26) dX6_note_1 (by omega) (by decide) (fun cw1 => cw1.elim) (fun cw1 => ?_)
    refine E_iload_n dX6_note_4 rfl ?_
    refine E_ldc (nI 49500) dX6_note_5 k_X6_28 ?_
    refine E_cN_ge (a := s) (b := 49500) (tgt := 26) dX6_note_7 (by omega) (by decide) (by decide) (fun cw7 => absurd cw7 (by omega)) (fun cw7 => ?_)
    refine E_aload_n dX6_note_10 rfl ?_
    refine E_getI dX6_note_11 f_X6_18 rfl (Nat.lt_of_lt_of_le (by decide) hN) rfl ?_
    refine E.top (hP.1) ?_
    refine E_aload_n dX6_note_14 rfl ?_
    refine E_getR dX6_note_15 f_X6_15 rfl (Nat.lt_of_lt_of_le (by decide) hN) rfl hw ?_
    refine E_alen dX6_note_18 rfl (Nat.lt_of_lt_of_le (by decide) hN) (by decide) (by decide) ?_
    refine E.top (show _ = nI 49500 from rfl) ?_
    refine E_cN_ge (a := b.1) (b := 49500) (tgt := 26) dX6_note_19 (by omega) (by decide) (by decide) (fun cw19 => absurd cw19 (by omega)) (fun cw19 => ?_)
    refine E_ic (nI 1) dX6_note_22 (by decide) ?_
    refine E_goto (tgt := 27) dX6_note_23 (by decide) ?_
    refine E_istore_n dX6_note_27 (Nat.le_of_ble_eq_true rfl) ?_
    refine E_iload_n dX6_note_28 rfl ?_
    refine E_zN_eq (a := 1) (tgt := 91) dX6_note_29 (by decide) (by decide) (fun cw29 => absurd cw29 (by omega)) (fun cw29 => ?_)
    refine E_aload_n dX6_note_32 rfl ?_
    refine E_getR dX6_note_33 f_X6_11 rfl (Nat.lt_of_lt_of_le (by decide) hN) rfl (hR _ _ _ rfl) ?_
    refine E_iload_n dX6_note_36 rfl ?_
    refine E_ic (nI 5) dX6_note_37 (by decide) ?_
    refine E_ishr dX6_note_38 ?_
    refine E.top (pk_shr5 (by omega)) ?_
    refine E_ialdN dX6_note_39 rfl (Nat.lt_of_lt_of_le (by decide) hN) (by omega) ?_
    refine E.top (rfl) ?_
    refine E_iload_n dX6_note_40 rfl ?_
    refine E_bp (nI 31) dX6_note_41 (by decide) ?_
    refine E_iand dX6_note_43 ?_
    refine E.top (pk_andN (show s < 2 ^ 32 by omega) 5 (by decide)) ?_
    refine E_iushr dX6_note_44 ?_
    refine E_ic (nI 1) dX6_note_45 (by decide) ?_
    refine E_iand dX6_note_46 ?_
    refine E.top (hbit) ?_
    refine E_zN_ne (a := 0) (tgt := 91) dX6_note_47 (by decide) (by decide) (fun cw47 => absurd cw47 (by omega)) (fun cw47 => ?_)
    refine E_aload_n dX6_note_50 rfl ?_
    refine E_getR dX6_note_51 f_X6_11 rfl (Nat.lt_of_lt_of_le (by decide) hN) rfl (hR _ _ _ rfl) ?_
    refine E_iload_n dX6_note_54 rfl ?_
    refine E_ic (nI 5) dX6_note_55 (by decide) ?_
    refine E_ishr dX6_note_56 ?_
    refine E.top (pk_shr5 (by omega)) ?_
    refine E_dup2 dX6_note_57 rfl rfl ?_
    refine E_ialdN dX6_note_58 rfl (Nat.lt_of_lt_of_le (by decide) hN) (by omega) ?_
    refine E.top (rfl) ?_
    refine E_ic (nI 1) dX6_note_59 (by decide) ?_
    refine E_iload_n dX6_note_60 rfl ?_
    refine E_bp (nI 31) dX6_note_61 (by decide) ?_
    refine E_iand dX6_note_63 ?_
    refine E.top (pk_andN (show s < 2 ^ 32 by omega) 5 (by decide)) ?_
    refine E_ishl dX6_note_64 ?_
    refine E_ior dX6_note_65 ?_
    refine E_iastN dX6_note_66 rfl (Nat.lt_of_lt_of_le (by decide) hN) (by omega) ?_
    refine E_aload_n dX6_note_67 rfl ?_
    refine E_getR dX6_note_68 f_X6_15 rfl (Nat.lt_of_lt_of_le (by decide) hN) rfl hw ?_
    refine E_aload_n dX6_note_71 rfl ?_
    refine E_getI dX6_note_72 f_X6_18 rfl (Nat.lt_of_lt_of_le (by decide) hN) rfl ?_
    refine E.top ((congrFun (up2_o _ 38 _ _ 37 (by decide)) 2).trans hP.1) ?_
    refine E_iload_n dX6_note_75 rfl ?_
    refine E_ic (nI 3) dX6_note_76 (by decide) ?_
    refine E_ishl dX6_note_77 ?_
    refine E.top (pk_shl3 (show s < 49500 by omega)) ?_
    refine E_iload_n dX6_note_78 rfl ?_
    refine E_ior dX6_note_79 ?_
    refine E.top (pk_or3 hs hf) ?_
    refine E_iastN dX6_note_80 rfl (Nat.lt_of_lt_of_le (by decide) hN) (by omega) ?_
    refine E_aload_n dX6_note_81 rfl ?_
    refine E_dup dX6_note_82 rfl ?_
    refine E_getI dX6_note_83 f_X6_18 rfl (Nat.lt_of_lt_of_le (by decide) hN) rfl ?_
    refine E.top ((congrFun (up2_o _ 152 _ _ 37 (by decide)) 2).trans ((congrFun (up2_o _ 38 _ _ 37 (by decide)) 2).trans hP.1)) ?_
    refine E_ic (nI 1) dX6_note_86 (by decide) ?_
    refine E_iadd dX6_note_87 ?_
    refine E.top (nI_add (b.1) 1) ?_
    refine E_putI dX6_note_88 f_X6_18 rfl (Nat.lt_of_lt_of_le (by decide) hN) rfl ?_
    exact E_ret dX6_note_91 rfl (hQ _ (XP_nt hW hP hs hv hf2 hz).2.1 (XP_nt hW hP hs hv hf2 hz).1 (XP_nt hW hP hs hv hf2 hz).2.2)
  · have hle := hW.le
    by_cases hroom : b.1 < 49500
    · have hbit : (((I 38 (s / 32)).toUInt32 >>> ((nI (s % 2 ^ 5)).toUInt32 &&& Int32.toUInt32 31)).toInt32 &&& nI 1) = nI 1 := by
        rw [bt_low, bt_shr (show s % 2 ^ 5 < 32 by omega), show s % 2 ^ 5 = s % 32 from rfl, hP.2.2 s hs, decide_eq_true hz]
        rfl
      refine E_iload_n dX6_note_0 rfl ?_
      refine E_zN_lt (a := s) (tgt := 26) dX6_note_1 (by omega) (by decide) (fun cw1 => cw1.elim) (fun cw1 => ?_)
      refine E_iload_n dX6_note_4 rfl ?_
      refine E_ldc (nI 49500) dX6_note_5 k_X6_28 ?_
      refine E_cN_ge (a := s) (b := 49500) (tgt := 26) dX6_note_7 (by omega) (by decide) (by decide) (fun cw7 => absurd cw7 (by omega)) (fun cw7 => ?_)
      refine E_aload_n dX6_note_10 rfl ?_
      refine E_getI dX6_note_11 f_X6_18 rfl (Nat.lt_of_lt_of_le (by decide) hN) rfl ?_
      refine E.top (hP.1) ?_
      refine E_aload_n dX6_note_14 rfl ?_
      refine E_getR dX6_note_15 f_X6_15 rfl (Nat.lt_of_lt_of_le (by decide) hN) rfl hw ?_
      refine E_alen dX6_note_18 rfl (Nat.lt_of_lt_of_le (by decide) hN) (by decide) (by decide) ?_
      refine E.top (show _ = nI 49500 from rfl) ?_
      refine E_cN_ge (a := b.1) (b := 49500) (tgt := 26) dX6_note_19 (by omega) (by decide) (by decide) (fun cw19 => absurd cw19 (by omega)) (fun cw19 => ?_)
      refine E_ic (nI 1) dX6_note_22 (by decide) ?_
      refine E_goto (tgt := 27) dX6_note_23 (by decide) ?_
      refine E_istore_n dX6_note_27 (Nat.le_of_ble_eq_true rfl) ?_
      refine E_iload_n dX6_note_28 rfl ?_
      refine E_zN_eq (a := 1) (tgt := 91) dX6_note_29 (by decide) (by decide) (fun cw29 => absurd cw29 (by omega)) (fun cw29 => ?_)
      refine E_aload_n dX6_note_32 rfl ?_
      refine E_getR dX6_note_33 f_X6_11 rfl (Nat.lt_of_lt_of_le (by decide) hN) rfl (hR _ _ _ rfl) ?_
      refine E_iload_n dX6_note_36 rfl ?_
      refine E_ic (nI 5) dX6_note_37 (by decide) ?_
      refine E_ishr dX6_note_38 ?_
      refine E.top (pk_shr5 (by omega)) ?_
      refine E_ialdN dX6_note_39 rfl (Nat.lt_of_lt_of_le (by decide) hN) (by omega) ?_
      refine E.top (rfl) ?_
      refine E_iload_n dX6_note_40 rfl ?_
      refine E_bp (nI 31) dX6_note_41 (by decide) ?_
      refine E_iand dX6_note_43 ?_
      refine E.top (pk_andN (show s < 2 ^ 32 by omega) 5 (by decide)) ?_
      refine E_iushr dX6_note_44 ?_
      refine E_ic (nI 1) dX6_note_45 (by decide) ?_
      refine E_iand dX6_note_46 ?_
      refine E.top (hbit) ?_
      refine E_zN_ne (a := 1) (tgt := 91) dX6_note_47 (by decide) (by decide) (fun cw47 => ?_) (fun cw47 => absurd cw47 (by omega))
      exact E_ret dX6_note_91 rfl (by rw [nt_f hz] at hQ; exact hQ I (fun _ _ _ _ => rfl) hP (fun _ _ => rfl))
    · skip
      refine E_iload_n dX6_note_0 rfl ?_
      refine E_zN_lt (a := s) (tgt := 26) dX6_note_1 (by omega) (by decide) (fun cw1 => cw1.elim) (fun cw1 => ?_)
      refine E_iload_n dX6_note_4 rfl ?_
      refine E_ldc (nI 49500) dX6_note_5 k_X6_28 ?_
      refine E_cN_ge (a := s) (b := 49500) (tgt := 26) dX6_note_7 (by omega) (by decide) (by decide) (fun cw7 => absurd cw7 (by omega)) (fun cw7 => ?_)
      refine E_aload_n dX6_note_10 rfl ?_
      refine E_getI dX6_note_11 f_X6_18 rfl (Nat.lt_of_lt_of_le (by decide) hN) rfl ?_
      refine E.top (hP.1) ?_
      refine E_aload_n dX6_note_14 rfl ?_
      refine E_getR dX6_note_15 f_X6_15 rfl (Nat.lt_of_lt_of_le (by decide) hN) rfl hw ?_
      refine E_alen dX6_note_18 rfl (Nat.lt_of_lt_of_le (by decide) hN) (by decide) (by decide) ?_
      refine E.top (show _ = nI 49500 from rfl) ?_
      refine E_cN_ge (a := b.1) (b := 49500) (tgt := 26) dX6_note_19 (by omega) (by decide) (by decide) (fun cw19 => ?_) (fun cw19 => absurd cw19 (by omega))
      refine E_ic (nI 0) dX6_note_26 (by decide) ?_
      refine E_istore_n dX6_note_27 (Nat.le_of_ble_eq_true rfl) ?_
      refine E_iload_n dX6_note_28 rfl ?_
      refine E_zN_eq (a := 0) (tgt := 91) dX6_note_29 (by decide) (by decide) (fun cw29 => ?_) (fun cw29 => absurd cw29 (by omega))
      exact E_ret dX6_note_91 rfl (by rw [nt_f hz] at hQ; exact hQ I (fun _ _ _ _ => rfl) hP (fun _ _ => rfl))
end PNote
