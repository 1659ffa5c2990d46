theorem x_val : Cond.fieldLink RJ0 9 "java/lang/String" "value" "[B" ∈ tG := tbg 1525 (by decide +kernel) rfl
theorem x_cod : Cond.fieldLink RJ0 15 "java/lang/String" "coder" "B" ∈ tG := tbg 1526 (by decide +kernel) rfl
theorem x_cmp : Cond.fieldLink RJ0 38 "java/lang/String" "COMPACT_STRINGS" "Z" ∈ tG := tbg 47 (by decide +kernel) rfl
theorem x_fmt : Cond.fieldLink RJ0 1053 "jdk/internal/util/Preconditions" "SIOOBE_FORMATTER" "Ljava/util/function/BiFunction;" ∈ tG := tbg 472 (by decide +kernel) rfl
section PText
variable {g : GL} {d n : Nat} {I : IM} {J : JM} {R : RM} {Q : PQ}
theorem gK_x (g : GL) {i : Nat} {q : String × Nat × String × List Int32} (h : SRL[i]? = some q) : ∃ z, gK g (2 * i + 1) = some z := ⟨_, gK_s g i (SRL_lt h)⟩
theorem gK_y (g : GL) {i : Nat} {q : String × Nat × String × List Int32} (h : SRL[i]? = some q) : ∃ z, gK g (2 * i + 2) = some z := ⟨_, gK_v g i (SRL_lt h)⟩
set_option maxRecDepth 100000 in
set_option maxHeartbeats 4000000 in
theorem c_String_coder {i : Nat} {q : String × Nat × String × List Int32} (hq : SRL[i]? = some q) (hQ : Q (some (.int 0)) n I J R) : E g mJ0_coder_7d493 d 0 0 0 (ent 1 [.retAddr (2 * i + 1)]) [] n I J R Q := by
  refine E_compact dJ0_coder_7d493_0 x_cmp ?_
  refine E_if_eq (tgt := 13) dJ0_coder_7d493_3 (by decide) (fun c3 => absurd c3 (by decide)) (fun c3 => ?_)
  refine E_xload_n dJ0_coder_7d493_6 rfl (gK_x g hq) ?_
  refine E_scod dJ0_coder_7d493_7 hq x_cod ?_
  refine E_goto (tgt := 14) dJ0_coder_7d493_10 (by decide) ?_
  exact E_zret dJ0_coder_7d493_14 rfl (by decide) (hQ)
set_option maxRecDepth 100000 in
set_option maxHeartbeats 4000000 in
theorem c_String_isLatin1 {i : Nat} {q : String × Nat × String × List Int32} (hq : SRL[i]? = some q) (hQ : Q (some (.int 1)) n I J R) : E g mJ0_isLatin1_aae02 d 0 0 0 (ent 1 [.retAddr (2 * i + 1)]) [] n I J R Q := by
  refine E_compact dJ0_isLatin1_aae02_0 x_cmp ?_
  refine E_if_eq (tgt := 17) dJ0_isLatin1_aae02_3 (by decide) (fun c3 => absurd c3 (by decide)) (fun c3 => ?_)
  refine E_xload_n dJ0_isLatin1_aae02_6 rfl (gK_x g hq) ?_
  refine E_scod dJ0_isLatin1_aae02_7 hq x_cod ?_
  refine E_if_ne (tgt := 17) dJ0_isLatin1_aae02_10 (by decide) (fun c10 => absurd (by decide) c10) (fun c10 => ?_)
  refine E_ic (1) dJ0_isLatin1_aae02_13 (by decide) ?_
  refine E_goto (tgt := 18) dJ0_isLatin1_aae02_14 (by decide) ?_
  exact E_zret dJ0_isLatin1_aae02_18 rfl (by decide) (hQ)
set_option maxRecDepth 100000 in
set_option maxHeartbeats 4000000 in
theorem c_String_length {i : Nat} {q : String × Nat × String × List Int32} (hq : SRL[i]? = some q) (hQ : Q (some (.int (Int32.ofNat q.2.2.2.length))) n I J R) : E g mJ0_length_8abf5 (d + 1) 0 0 0 (ent 1 [.retAddr (2 * i + 1)]) [] n I J R Q := by
  have e : ∀ x : Int32, x = Int32.ofNat q.2.2.2.length → Q (some (.int x)) n I J R := fun _ h => h ▸ hQ
  refine E_xload_n dJ0_length_8abf5_0 rfl (gK_x g hq) ?_
  refine E_sval dJ0_length_8abf5_1 hq x_val ?_
  refine E_tlen dJ0_length_8abf5_4 hq ?_
  refine E_xload_n dJ0_length_8abf5_5 rfl (gK_x g hq) ?_
  refine E_callT (As := []) (kc' := 0) (ks' := 0) (kc := 0) (ks := 0) dJ0_length_8abf5_6 ok_J0_coder_7d493 rfl w_J0_335 i_J0_coder_7d493 s_J0_coder_7d493 hq rfl rfl rfl (Nat.le_of_ble_eq_true rfl) (Nat.le_of_ble_eq_true rfl) (Nat.le_refl _) (c_String_coder hq ?_)
  refine E_ishr dJ0_length_8abf5_9 ?_
  exact E_iret dJ0_length_8abf5_10 rfl (e _ (sb_shr0 _))
set_option maxRecDepth 100000 in
set_option maxHeartbeats 4000000 in
theorem c_Pre_check {x L : Int32} (h0 : ¬ x < 0) (h1 : x < L) (hQ : Q (some (.int x)) n I J R) : E g mJ3_checkIndex_8e157 d 0 0 0 (ent 3 [.int x, .int L, .retAddr 99]) [] n I J R Q := by
  refine E_iload_n dJ3_checkIndex_8e157_0 rfl ?_
  refine E_if_lt (tgt := 9) dJ3_checkIndex_8e157_1 (by decide) (fun c1 => absurd c1 (h0)) (fun c1 => ?_)
  refine E_iload_n dJ3_checkIndex_8e157_4 rfl ?_
  refine E_iload_n dJ3_checkIndex_8e157_5 rfl ?_
  refine E_icmp_lt (tgt := 16) dJ3_checkIndex_8e157_6 (by decide) (fun c6 => ?_) (fun c6 => absurd (h1) c6)
  refine E_iload_n dJ3_checkIndex_8e157_16 rfl ?_
  exact E_iret dJ3_checkIndex_8e157_17 rfl (hQ)
set_option maxRecDepth 100000 in
set_option maxHeartbeats 4000000 in
theorem c_String_check {x L : Int32} (h0 : ¬ x < 0) (h1 : x < L) (hQ : Q none n I J R) : E g mJ0_checkIndex_df160 (d + 1) 0 0 0 (ent 2 [.int x, .int L]) [] n I J R Q := by
  refine E_iload_n dJ0_checkIndex_df160_0 rfl ?_
  refine E_iload_n dJ0_checkIndex_df160_1 rfl ?_
  refine E_format dJ0_checkIndex_df160_2 x_fmt ?_
  refine E_callS (As := [_, _, _]) (kc' := 0) (ks' := 0) (kc := 0) (ks := 0) dJ0_checkIndex_df160_5 ok_J3_checkIndex_8e157 w_J0_1059 st_J3_checkIndex_8e157 rfl rfl rfl (Nat.le_of_ble_eq_true rfl) (Nat.le_of_ble_eq_true rfl) (Nat.le_refl _) (c_Pre_check h0 h1 ?_)
  refine E_pop dJ0_checkIndex_df160_8 rfl ?_
  exact E_ret dJ0_checkIndex_df160_9 rfl (hQ)
set_option maxRecDepth 100000 in
set_option maxHeartbeats 4000000 in
theorem c_Latin1_charAt {i : Nat} {q : String × Nat × String × List Int32} (hq : SRL[i]? = some q) {x : Int32} (h0 : ¬ x < 0) (h1 : x < Int32.ofNat q.2.2.2.length) (h2 : x.toNatClampNeg < q.2.2.2.length) (hQ : Q (some (.int (q.2.2.2.getD x.toNatClampNeg 0 &&& 255))) n I J R) : E g mJ1_charAt_3b067 (d + 2) 0 0 0 (ent 2 [.retAddr (2 * i + 2), .int x]) [] n I J R Q := by
  refine E_iload_n dJ1_charAt_3b067_0 rfl ?_
  refine E_xload_n dJ1_charAt_3b067_1 rfl (gK_y g hq) ?_
  refine E_tlen dJ1_charAt_3b067_2 hq ?_
  refine E_callS (As := [_, _]) (kc' := 0) (ks' := 0) (kc := 0) (ks := 0) dJ1_charAt_3b067_3 ok_J0_checkIndex_df160 w_J1_9 st_J0_checkIndex_df160 rfl rfl rfl (Nat.le_of_ble_eq_true rfl) (Nat.le_of_ble_eq_true rfl) (Nat.le_refl _) (c_String_check h0 h1 ?_)
  refine E_xload_n dJ1_charAt_3b067_6 rfl (gK_y g hq) ?_
  refine E_iload_n dJ1_charAt_3b067_7 rfl ?_
  refine E_tld dJ1_charAt_3b067_8 hq h0 h2 ?_
  refine E_sp (255) dJ1_charAt_3b067_9 (by decide) ?_
  refine E_iand dJ1_charAt_3b067_12 ?_
  refine E_i2c dJ1_charAt_3b067_13 ?_
  refine E.top (sc_c2 _) ?_
  exact E_zret dJ1_charAt_3b067_14 rfl (sc_nar _) (hQ)
set_option maxRecDepth 100000 in
set_option maxHeartbeats 4000000 in
theorem c_String_charAt {i : Nat} {q : String × Nat × String × List Int32} (hq : SRL[i]? = some q) {x : Int32} (h0 : ¬ x < 0) (h1 : x < Int32.ofNat q.2.2.2.length) (h2 : x.toNatClampNeg < q.2.2.2.length) (hQ : Q (some (.int (q.2.2.2.getD x.toNatClampNeg 0 &&& 255))) n I J R) : E g mJ0_charAt_5068e (d + 3) 0 0 0 (ent 2 [.retAddr (2 * i + 1), .int x]) [] n I J R Q := by
  refine E_xload_n dJ0_charAt_5068e_0 rfl (gK_x g hq) ?_
  refine E_callT (As := []) (kc' := 0) (ks' := 0) (kc := 0) (ks := 0) dJ0_charAt_5068e_1 ok_J0_isLatin1_aae02 rfl w_J0_492 i_J0_isLatin1_aae02 s_J0_isLatin1_aae02 hq rfl rfl rfl (Nat.le_of_ble_eq_true rfl) (Nat.le_of_ble_eq_true rfl) (Nat.le_refl _) (c_String_isLatin1 hq ?_)
  refine E_if_eq (tgt := 16) dJ0_charAt_5068e_4 (by decide) (fun c4 => absurd c4 (by decide)) (fun c4 => ?_)
  refine E_xload_n dJ0_charAt_5068e_7 rfl (gK_x g hq) ?_
  refine E_sval dJ0_charAt_5068e_8 hq x_val ?_
  refine E_iload_n dJ0_charAt_5068e_11 rfl ?_
  refine E_callS (As := [_, _]) (kc' := 0) (ks' := 0) (kc := 0) (ks := 0) dJ0_charAt_5068e_12 ok_J1_charAt_3b067 w_J0_495 st_J1_charAt_3b067 rfl rfl rfl (Nat.le_of_ble_eq_true rfl) (Nat.le_of_ble_eq_true rfl) (Nat.le_refl _) (c_Latin1_charAt hq h0 h1 h2 ?_)
  exact E_zret dJ0_charAt_5068e_15 rfl (sc_nar _) (hQ)
end PText
